/-! ===== the class: where its objects lie, and what they mean ===== -/
def CLa (c e i : Nat) : Prop := (c = 3 ∧ e = 16 ∧ i = 17) ∨ (c = 29 ∧ e = 30 ∧ i = 31)
def HLa (a : Nat) : Prop := a = 4 ∨ a = 39
def LLa (b : Nat) : Prop := b = 13 ∨ b = 48
def SLa (a : Nat) : Prop := a = 37 ∨ a = 51
def ShL (a mx : Nat) : Prop := (a = 32 ∧ mx = 16) ∨ (a = 34 ∧ mx = 3) ∨ (a = 53 ∧ mx = 16) ∨ (a = 55 ∧ mx = 16) ∨ (a = 57 ∧ mx = 16)
theorem cvn_r0 {c e i : Nat} (h : CLa c e i) : layR c 0 = some (0, e) := by rcases h with ⟨rfl, rfl, rfl⟩ | ⟨rfl, rfl, rfl⟩ <;> rfl
theorem cvn_r1 {c e i : Nat} (h : CLa c e i) : layR c 1 = some (0, i) := by rcases h with ⟨rfl, rfl, rfl⟩ | ⟨rfl, rfl, rfl⟩ <;> rfl
theorem cvn_p2 {c e i : Nat} (h : CLa c e i) : layP c 2 = some 0 := by rcases h with ⟨rfl, rfl, rfl⟩ | ⟨rfl, rfl, rfl⟩ <;> rfl
theorem cvn_p3 {c e i : Nat} (h : CLa c e i) : layP c 3 = some 0 := by rcases h with ⟨rfl, rfl, rfl⟩ | ⟨rfl, rfl, rfl⟩ <;> rfl
theorem cvn_n {c e i : Nat} (h : CLa c e i) : layN c = some 0 := by rcases h with ⟨rfl, rfl, rfl⟩ | ⟨rfl, rfl, rfl⟩ <;> rfl
theorem cvn_e {c e i : Nat} (h : CLa c e i) : lay e = some (.inr (0, 31, 0, 0)) := by rcases h with ⟨rfl, rfl, rfl⟩ | ⟨rfl, rfl, rfl⟩ <;> rfl
theorem cvn_i {c e i : Nat} (h : CLa c e i) : lay i = some (.inr (0, 8, 1, 0)) := by rcases h with ⟨rfl, rfl, rfl⟩ | ⟨rfl, rfl, rfl⟩ <;> rfl
theorem hou_r0 {a : Nat} (h : HLa a) : layR a 0 = some (1, a + 1) := by rcases h with rfl | rfl <;> rfl
theorem hou_r1 {a : Nat} (h : HLa a) : layR a 1 = some (1, a + 2) := by rcases h with rfl | rfl <;> rfl
theorem hou_r2 {a : Nat} (h : HLa a) : layR a 2 = some (1, a + 3) := by rcases h with rfl | rfl <;> rfl
theorem hou_r3 {a : Nat} (h : HLa a) : layR a 3 = some (1, a + 4) := by rcases h with rfl | rfl <;> rfl
theorem hou_r4 {a : Nat} (h : HLa a) : layR a 4 = some (1, a + 5) := by rcases h with rfl | rfl <;> rfl
theorem hou_r5 {a : Nat} (h : HLa a) : layR a 5 = some (1, a + 6) := by rcases h with rfl | rfl <;> rfl
theorem hou_r6 {a : Nat} (h : HLa a) : layR a 6 = some (1, a + 7) := by rcases h with rfl | rfl <;> rfl
theorem hou_r7 {a : Nat} (h : HLa a) : layR a 7 = some (1, a + 8) := by rcases h with rfl | rfl <;> rfl
theorem hou_i8 {a : Nat} (h : HLa a) : layI a 8 = some 1 := by rcases h with rfl | rfl <;> rfl
theorem hou_i9 {a : Nat} (h : HLa a) : layI a 9 = some 1 := by rcases h with rfl | rfl <;> rfl
theorem hou_i10 {a : Nat} (h : HLa a) : layI a 10 = some 1 := by rcases h with rfl | rfl <;> rfl
theorem hou_n {a : Nat} (h : HLa a) : layN a = some 1 := by rcases h with rfl | rfl <;> rfl
theorem hou_a0 {a : Nat} (h : HLa a) : lay (a + 1) = some (.inr (0, 8, 0, 0)) := by rcases h with rfl | rfl <;> rfl
theorem hou_a1 {a : Nat} (h : HLa a) : lay (a + 2) = some (.inr (0, 8, 0, 0)) := by rcases h with rfl | rfl <;> rfl
theorem hou_a2 {a : Nat} (h : HLa a) : lay (a + 3) = some (.inr (0, 8, 0, 0)) := by rcases h with rfl | rfl <;> rfl
theorem hou_a3 {a : Nat} (h : HLa a) : lay (a + 4) = some (.inr (0, 10, 0, 0)) := by rcases h with rfl | rfl <;> rfl
theorem hou_a4 {a : Nat} (h : HLa a) : lay (a + 5) = some (.inr (0, 10, 0, 0)) := by rcases h with rfl | rfl <;> rfl
theorem hou_a5 {a : Nat} (h : HLa a) : lay (a + 6) = some (.inr (0, 10, 0, 0)) := by rcases h with rfl | rfl <;> rfl
theorem hou_a6 {a : Nat} (h : HLa a) : lay (a + 7) = some (.inr (0, 8, 0, 0)) := by rcases h with rfl | rfl <;> rfl
theorem hou_a7 {a : Nat} (h : HLa a) : lay (a + 8) = some (.inr (0, 8, 0, 0)) := by rcases h with rfl | rfl <;> rfl
theorem law_r0 {b : Nat} (h : LLa b) : layR b 0 = some (2, b + 1) := by rcases h with rfl | rfl <;> rfl
theorem law_r1 {b : Nat} (h : LLa b) : layR b 1 = some (2, b + 2) := by rcases h with rfl | rfl <;> rfl
theorem law_i2 {b : Nat} (h : LLa b) : layI b 2 = some 2 := by rcases h with rfl | rfl <;> rfl
theorem law_n {b : Nat} (h : LLa b) : layN b = some 2 := by rcases h with rfl | rfl <;> rfl
theorem law_a0 {b : Nat} (h : LLa b) : lay (b + 1) = some (.inr (0, 150, 0, 0)) := by rcases h with rfl | rfl <;> rfl
theorem law_a1 {b : Nat} (h : LLa b) : lay (b + 2) = some (.inr (0, 24, 1, 0)) := by rcases h with rfl | rfl <;> rfl
theorem sgt_r0 {a : Nat} (h : SLa a) : layR a 0 = some (6, a + 1) := by rcases h with rfl | rfl <;> rfl
theorem sgt_i1 {a : Nat} (h : SLa a) : layI a 1 = some 6 := by rcases h with rfl | rfl <;> rfl
theorem sgt_n {a : Nat} (h : SLa a) : layN a = some 6 := by rcases h with rfl | rfl <;> rfl
theorem sgt_a0 {a : Nat} (h : SLa a) : lay (a + 1) = some (.inr (0, 10, 0, 0)) := by rcases h with rfl | rfl <;> rfl
theorem shf_i0 {a mx : Nat} (h : ShL a mx) : layI a 0 = some 5 := by rcases h with ⟨rfl, rfl⟩ | ⟨rfl, rfl⟩ | ⟨rfl, rfl⟩ | ⟨rfl, rfl⟩ | ⟨rfl, rfl⟩ <;> rfl
theorem shf_i1 {a mx : Nat} (h : ShL a mx) : layI a 1 = some 5 := by rcases h with ⟨rfl, rfl⟩ | ⟨rfl, rfl⟩ | ⟨rfl, rfl⟩ | ⟨rfl, rfl⟩ | ⟨rfl, rfl⟩ <;> rfl
theorem shf_i3 {a mx : Nat} (h : ShL a mx) : layI a 3 = some 5 := by rcases h with ⟨rfl, rfl⟩ | ⟨rfl, rfl⟩ | ⟨rfl, rfl⟩ | ⟨rfl, rfl⟩ | ⟨rfl, rfl⟩ <;> rfl
theorem shf_r2 {a mx : Nat} (h : ShL a mx) : layR a 2 = some (5, a + 1) := by rcases h with ⟨rfl, rfl⟩ | ⟨rfl, rfl⟩ | ⟨rfl, rfl⟩ | ⟨rfl, rfl⟩ | ⟨rfl, rfl⟩ <;> rfl
theorem shf_n {a mx : Nat} (h : ShL a mx) : layN a = some 5 := by rcases h with ⟨rfl, rfl⟩ | ⟨rfl, rfl⟩ | ⟨rfl, rfl⟩ | ⟨rfl, rfl⟩ | ⟨rfl, rfl⟩ <;> rfl
theorem shf_a2 {a mx : Nat} (h : ShL a mx) : lay (a + 1) = some (.inr (0, mx * 31, 0, 0)) := by rcases h with ⟨rfl, rfl⟩ | ⟨rfl, rfl⟩ | ⟨rfl, rfl⟩ | ⟨rfl, rfl⟩ | ⟨rfl, rfl⟩ <;> rfl
section JT
variable {g : Gp} {M : Mt} {d : Nat} {tb : List ExceptionTableEntry} {pc : Nat} {ls ls' : List (Option Value)} {st : List Value} {h : AH} {sz kc ks : Nat} {Q : Po}
theorem J_tr {x y : Nat} (h1 : x = y) (k : J g M d tb pc ls (.ref y :: st) h sz kc ks Q) : J g M d tb pc ls (.ref x :: st) h sz kc ks Q := by rw [h1]; exact k
end JT
/-- the class's house at a is d -/
def HC (S : Sx) (a : Nat) (d : HD) : Prop := sf S a 8 = nI (dNs d) ∧ sf S a 9 = nI (dNr d) ∧ sf S a 10 = nI (dNp d) ∧
  (∀ s, s < dNs d → sa S (a + 1) s = nI (dTm d s) ∧ sa S (a + 2) s = msk (fun r => decide (dOw d r = s)) (dNr d) ∧ sa S (a + 3) s = ov (d.2.1 s)) ∧
  (∀ r, r < dNr d → sa S (a + 4) r = nI (dOw d r) ∧ sa S (a + 5) r = nI (dIl d r) ∧ sa S (a + 6) r = nI (dWo d r)) ∧
  (∀ p, p < dNp d → sa S (a + 7) p = nI (dPi d p) ∧ sa S (a + 8) p = nI (dPn d p))
/-- the items of the class's law; the plain one is written out -/
def plW (k : Nat) : Nat × Nat := [(1, 0), (1, 1), (2, 0), (1, 2), (0, 2), (4, 0), (3, 0)].getD k (0, 0)
def cM (m : Nat) : Nat := if m = 0 then 7 else m
def cW (m : Nat) (wv : Nat → Nat × Nat) : Nat → Nat × Nat := if m = 0 then plW else wv
def enc (q : Nat × Nat) : Nat := if q.1 = 0 then q.2 else if q.1 = 1 then 1000 + q.2 else 1998 + q.1
def LC (S : Sx) (b m : Nat) (wv : Nat → Nat × Nat) : Prop := sf S b 2 = nI (cM m) ∧ ∀ k, k < cM m → sa S (b + 1) k = nI (enc (cW m wv k))
/-- the cells of a convent, by the model's row -/
def RC (d : HD) (c f : Row) : Prop := c 0 = f 44 ∧ c 1 = msk (fun s => decide (f (0 + s) = 0)) (dNs d) ∧ c 2 = msk (fun r => decide (f (16 + r) ≠ -1)) (dNr d) ∧ c 3 = msk (fun p => decide (f (36 + p) ≠ -1)) (dNp d) ∧ c 4 = msk (fun r => decide (f (26 + r) = 1)) (dNr d) ∧
  (∀ r, r < dNr d → f (16 + r) ≠ -1 → c (5 + r) = f (16 + r)) ∧ (∀ s, s < dNs d → c (15 + s) = f (8 + s)) ∧ (∀ p, p < dNp d → c (23 + p) = f (36 + p)) ∧
  (∀ s, s < dNs d → f (0 + s) = 0 ∨ f (0 + s) = 1) ∧ (∀ r, r < dNr d → f (26 + r) = 0 ∨ f (26 + r) = 1)
def CX (S : Sx) (c e i a b : Nat) (d : HD) (m : Nat) (wv : Nat → Nat × Nat) (f : Row) : Prop := CLa c e i ∧ HLa a ∧ LLa b ∧ sp S c 2 = a ∧ sp S c 3 = b ∧ HC S a d ∧ HV d ∧ LawW m wv ∧ LC S b m wv ∧ RC d (sa S e) f
theorem mb {p : Nat → Bool} {n r : Nat} (hn : n ≤ 32) (hr : r < n) : msk p n >>> (nI r &&& 31) &&& 1 = bI (p r) := by
  rw [bt_t _ (show r < 32 by omega), bt_msk p n hn, decide_eq_true hr, Bool.true_and]
  cases p r <;> rfl
theorem mb' {p : Nat → Bool} {n r : Nat} (hn : n ≤ 32) (hr : r < n) : msk p n >>> (ix r &&& 31) &&& 1 = bI (p r) := by rw [ix_nI]; exact mb hn hr
theorem msk_and {p q : Nat → Bool} {n : Nat} (hn : n ≤ 32) : msk p n &&& msk q n = msk (fun r => p r && q r) n := by
  apply bt_ext
  intro k hk
  rw [bt_and, bt_msk p n hn, bt_msk q n hn, bt_msk _ n hn]
  cases decide (k < n) <;> simp
/-! bits counted -/
def ush (x : Int32) (k : Int32) : Int32 := (x.toUInt32 >>> (k.toUInt32 &&& Int32.toUInt32 31)).toInt32
def bc1 (x : Int32) : Int32 := x - (ush x 1 &&& 1431655765)
def bc2 (x : Int32) : Int32 := (x &&& 858993459) + (ush x 2 &&& 858993459)
def bc3 (x : Int32) : Int32 := x + ush x 4 &&& 252645135
def bc4 (x : Int32) : Int32 := x + ush x 8
def bc5 (x : Int32) : Int32 := x + ush x 16
def bcn (x : Int32) : Int32 := bc5 (bc4 (bc3 (bc2 (bc1 x)))) &&& 63
set_option maxRecDepth 100000 in
theorem bcn_on : ∀ i, i < 1024 → bcn (nI i) = on1 (nI i) 10 := by decide +kernel
set_option maxRecDepth 100000 in
theorem on_less : ∀ i, i < 1024 → ∀ r, r < 10 → bt (nI i) r = true → on1 (nI i &&& ((1 : Int32) <<< (nI r &&& 31) ^^^ -1)) 10 = on1 (nI i) 10 - 1 := by decide +kernel
set_option maxRecDepth 100000 in
theorem and_lt : ∀ i, i < 1024 → ∀ r, r < 10 → ∃ j, j < 1024 ∧ nI i &&& ((1 : Int32) <<< (nI r &&& 31) ^^^ -1) = nI j := by
  intro i hi r hr
  have h : (nI i &&& ((1 : Int32) <<< (nI r &&& 31) ^^^ -1)).toBitVec.toNat < 2 ^ 10 := by
    apply Nat.lt_pow_two_of_testBit
    intro k hk
    show bt (nI i &&& ((1 : Int32) <<< (nI r &&& 31) ^^^ -1)) k = false
    rw [bt_and]
    by_cases h32 : k < 32
    · rw [bt_nI k h32, Nat.testBit_lt_two_pow (show i < 2 ^ k from Nat.lt_of_lt_of_le (show i < 2 ^ 10 from hi) (Nat.pow_le_pow_right (show 2 > 0 by decide) hk)), Bool.false_and]
    · rw [bt_hi _ (by omega), Bool.false_and]
  refine ⟨_, h, ?_⟩
  apply Int32.toBitVec_inj.mp
  show _ = BitVec.ofNat 32 _
  rw [BitVec.ofNat_toNat, BitVec.setWidth_eq]
theorem msk_lt {p : Nat → Bool} {n : Nat} (hn : n ≤ 10) : ∃ i, i < 1024 ∧ msk p n = nI i := by
  have h : (msk p n).toBitVec.toNat < 2 ^ 10 := by
    apply Nat.lt_pow_two_of_testBit
    intro k hk
    show bt (msk p n) k = false
    rw [bt_msk p n (by omega), decide_eq_false (by omega), Bool.false_and]
  refine ⟨_, h, ?_⟩
  apply Int32.toBitVec_inj.mp
  show _ = BitVec.ofNat 32 _
  rw [BitVec.ofNat_toNat, BitVec.setWidth_eq]
/-- of the bits of a mask, one that is among them left out -/
theorem bcn_msk {p : Nat → Bool} {n r : Nat} (hn : n ≤ 10) (hr : r < n) (hp : p r = true) : bcn (msk p n &&& ((1 : Int32) <<< (nI r &&& 31) ^^^ -1)) = on1 (msk p n) 10 - 1 := by
  obtain ⟨i, hi, e⟩ := msk_lt (p := p) hn
  have hb : bt (nI i) r = true := by rw [← e, bt_msk p n (by omega), decide_eq_true hr, hp]; rfl
  rw [e]
  obtain ⟨j, hj, e2⟩ := and_lt i hi r (by omega)
  rw [← on_less i hi r (by omega) hb, e2, bcn_on j hj]
theorem r_J6_bitCount_0f7a4 {g : Gp} {S : Sx} {x : Int32} : RT g mJ6_bitCount_0f7a4 0 [.int x] S (some (.int (bcn x))) S := by
  refine RT_ofQ ⟨rfl, rfl⟩ (Nat.le_of_ble_eq_true rfl) (fun sz Q hQ => ?_)
  refine J_iload_n (pc := 0) dJ6_bitCount_0f7a4_0 rfl ?_
  refine J_iload_n (pc := 1) dJ6_bitCount_0f7a4_1 rfl ?_
  refine J_iconst (pc := 2) (v := 1) dJ6_bitCount_0f7a4_2 (by decide) ?_
  refine J_iushr (pc := 3) dJ6_bitCount_0f7a4_3 ?_
  refine J_ldcw (pc := 4) (v := 1431655765) dJ6_bitCount_0f7a4_4 kt_J6_265 ?_
  refine J_iand (pc := 7) dJ6_bitCount_0f7a4_7 ?_
  refine J_isub (pc := 8) dJ6_bitCount_0f7a4_8 ?_
  refine J_istore_n (pc := 9) dJ6_bitCount_0f7a4_9 (by decide) rfl ?_
  refine J_iload_n (pc := 10) dJ6_bitCount_0f7a4_10 rfl ?_
  refine J_ldcw (pc := 11) (v := 858993459) dJ6_bitCount_0f7a4_11 kt_J6_266 ?_
  refine J_iand (pc := 14) dJ6_bitCount_0f7a4_14 ?_
  refine J_iload_n (pc := 15) dJ6_bitCount_0f7a4_15 rfl ?_
  refine J_iconst (pc := 16) (v := 2) dJ6_bitCount_0f7a4_16 (by decide) ?_
  refine J_iushr (pc := 17) dJ6_bitCount_0f7a4_17 ?_
  refine J_ldcw (pc := 18) (v := 858993459) dJ6_bitCount_0f7a4_18 kt_J6_266 ?_
  refine J_iand (pc := 21) dJ6_bitCount_0f7a4_21 ?_
  refine J_iadd (pc := 22) dJ6_bitCount_0f7a4_22 ?_
  refine J_istore_n (pc := 23) dJ6_bitCount_0f7a4_23 (by decide) rfl ?_
  refine J_iload_n (pc := 24) dJ6_bitCount_0f7a4_24 rfl ?_
  refine J_iload_n (pc := 25) dJ6_bitCount_0f7a4_25 rfl ?_
  refine J_iconst (pc := 26) (v := 4) dJ6_bitCount_0f7a4_26 (by decide) ?_
  refine J_iushr (pc := 27) dJ6_bitCount_0f7a4_27 ?_
  refine J_iadd (pc := 28) dJ6_bitCount_0f7a4_28 ?_
  refine J_ldcw (pc := 29) (v := 252645135) dJ6_bitCount_0f7a4_29 kt_J6_267 ?_
  refine J_iand (pc := 32) dJ6_bitCount_0f7a4_32 ?_
  refine J_istore_n (pc := 33) dJ6_bitCount_0f7a4_33 (by decide) rfl ?_
  refine J_iload_n (pc := 34) dJ6_bitCount_0f7a4_34 rfl ?_
  refine J_iload_n (pc := 35) dJ6_bitCount_0f7a4_35 rfl ?_
  refine J_bipush (pc := 36) (v := 8) dJ6_bitCount_0f7a4_36 (by decide) ?_
  refine J_iushr (pc := 38) dJ6_bitCount_0f7a4_38 ?_
  refine J_iadd (pc := 39) dJ6_bitCount_0f7a4_39 ?_
  refine J_istore_n (pc := 40) dJ6_bitCount_0f7a4_40 (by decide) rfl ?_
  refine J_iload_n (pc := 41) dJ6_bitCount_0f7a4_41 rfl ?_
  refine J_iload_n (pc := 42) dJ6_bitCount_0f7a4_42 rfl ?_
  refine J_bipush (pc := 43) (v := 16) dJ6_bitCount_0f7a4_43 (by decide) ?_
  refine J_iushr (pc := 45) dJ6_bitCount_0f7a4_45 ?_
  refine J_iadd (pc := 46) dJ6_bitCount_0f7a4_46 ?_
  refine J_istore_n (pc := 47) dJ6_bitCount_0f7a4_47 (by decide) rfl ?_
  refine J_iload_n (pc := 48) dJ6_bitCount_0f7a4_48 rfl ?_
  refine J_bipush (pc := 49) (v := 63) dJ6_bitCount_0f7a4_49 (by decide) ?_
  refine J_iand (pc := 51) dJ6_bitCount_0f7a4_51 ?_
  exact J_iret (pc := 52) rfl rfl rfl dJ6_bitCount_0f7a4_52 (rq hQ rfl rfl)
section JMM
variable {g : Gp} {M : Mt} {d : Nat} {tb : List ExceptionTableEntry} {pc idx : Nat} {ls ls' : List (Option Value)} {st : List Value} {h : AH} {sz kc ks : Nat} {Q : Po}
theorem mm_loc {n d L : Nat} (h : n ≤ 8) (hR : 60 * (d + 8) ≤ L) : n + 15 ≤ L := by omega
theorem J_mmin {x y : Int32} (hd : decode M.2.1 pc = .ok (.invokestatic idx, 3)) (hm : InT (.methodLink M.1.cls idx yJ9_min_7cf53)) (hcat : (st.map fun v => v.category).sum ≤ 8) (k : J g M d tb (pc + 3) ls (.int (if y < x then y else x) :: st) h sz kc ks Q) : J g M d tb pc ls (.int y :: .int x :: st) h sz kc ks Q := by
  intro p e s m args below meth c R mc ms QF C0 E H locs cells slots la hH hS hl1 h1 h2
  have hk := k p e s m args below meth c R mc ms QF C0 E H locs cells slots la hH hS hl1 h1 h2
  obtain ⟨c1, c2, c3, c4, c5, c6, c7, c8, c9, c10, c11, c12, c13⟩ := C0
  have hl := mm_loc hcat c9
  exact va_mmin c1 c2 (c3.trans hl1.1.symm) c5 (c7.2.1.good hm.1 hm.2) (c7.2.1.good cs_J9_min_7cf53.1 cs_J9_min_7cf53.2) (c7.2.1.good cf_J9_min_7cf53.2.1.1 cf_J9_min_7cf53.2.1.2) (c7.2.1.good cf_J9_min_7cf53.1.1 cf_J9_min_7cf53.1.2) (by omega) (by rw [cat_map]; omega) (by omega) (by omega) hd hk
theorem J_mmax {x y : Int32} (hd : decode M.2.1 pc = .ok (.invokestatic idx, 3)) (hm : InT (.methodLink M.1.cls idx yJ9_max_7cf53)) (hcat : (st.map fun v => v.category).sum ≤ 8) (k : J g M d tb (pc + 3) ls (.int (if x < y then y else x) :: st) h sz kc ks Q) : J g M d tb pc ls (.int y :: .int x :: st) h sz kc ks Q := by
  intro p e s m args below meth c R mc ms QF C0 E H locs cells slots la hH hS hl1 h1 h2
  have hk := k p e s m args below meth c R mc ms QF C0 E H locs cells slots la hH hS hl1 h1 h2
  obtain ⟨c1, c2, c3, c4, c5, c6, c7, c8, c9, c10, c11, c12, c13⟩ := C0
  have hl := mm_loc hcat c9
  exact va_mmax c1 c2 (c3.trans hl1.1.symm) c5 (c7.2.1.good hm.1 hm.2) (c7.2.1.good cs_J9_max_7cf53.1 cs_J9_max_7cf53.2) (c7.2.1.good cf_J9_max_7cf53.2.1.1 cf_J9_max_7cf53.2.1.2) (c7.2.1.good cf_J9_max_7cf53.1.1 cf_J9_max_7cf53.1.2) (by omega) (by rw [cat_map]; omega) (by omega) (by omega) hd hk
theorem J_mmaxl {x y : Int64} (hd : decode M.2.1 pc = .ok (.invokestatic idx, 3)) (hm : InT (.methodLink M.1.cls idx yJ9_max_f86c9)) (hcat : (st.map fun v => v.category).sum ≤ 8) (k : J g M d tb (pc + 3) ls (.long (if y < x then x else y) :: st) h sz kc ks Q) : J g M d tb pc ls (.long y :: .long x :: st) h sz kc ks Q := by
  intro p e s m args below meth c R mc ms QF C0 E H locs cells slots la hH hS hl1 h1 h2
  have hk := k p e s m args below meth c R mc ms QF C0 E H locs cells slots la hH hS hl1 h1 h2
  obtain ⟨c1, c2, c3, c4, c5, c6, c7, c8, c9, c10, c11, c12, c13⟩ := C0
  have hl := mm_loc hcat c9
  exact va_mmax_long c1 c2 (c3.trans hl1.1.symm) c5 (c7.2.1.good hm.1 hm.2) (c7.2.1.good cs_J9_max_f86c9.1 cs_J9_max_f86c9.2) (c7.2.1.good cf_J9_max_f86c9.2.1.1 cf_J9_max_f86c9.2.1.2) (c7.2.1.good cf_J9_max_f86c9.1.1 cf_J9_max_f86c9.1.2) (by omega) (by rw [cat_map]; omega) (by omega) (by omega) hd hk
end JMM
theorem min_lt (u v : Int32) : (if v < u then v else u) = if u < v then u else v := by
  by_cases h : u < v
  · rw [if_pos h, if_neg (Int32.not_lt.mpr (Int32.le_of_lt h))]
  · rw [if_neg h]
    by_cases h2 : v < u
    · rw [if_pos h2]
    · rw [if_neg h2]
      exact Int32.le_antisymm (Int32.not_lt.mp h2) (Int32.not_lt.mp h)
theorem max_lt (u v : Int32) : (if u < v then v else u) = if v < u then u else v := by
  by_cases h : v < u
  · rw [if_pos h, if_neg (Int32.not_lt.mpr (Int32.le_of_lt h))]
  · rw [if_neg h]
    by_cases h2 : u < v
    · rw [if_pos h2]
    · rw [if_neg h2]
      exact Int32.le_antisymm (Int32.not_lt.mp h) (Int32.not_lt.mp h2)
theorem r_X2_combine {g : Gp} {S : Sx} {w : Nat} {u v : Int32} (h : 2 ≤ w ∧ w ≤ 8) : RT g mX2_combine 1 [.int (nI (1998 + w)), .int u, .int v] S (some (.int (byv w u v))) S := by
  refine RT_ofQ ⟨rfl, rfl⟩ (Nat.le_of_ble_eq_true rfl) (fun sz Q hQ => ?_)
  obtain rfl | rfl | rfl | rfl | rfl | rfl | rfl : w = 2 ∨ w = 3 ∨ w = 4 ∨ w = 5 ∨ w = 6 ∨ w = 7 ∨ w = 8 := by omega
  · refine J_iload_n (pc := 0) dX2_combine_0 rfl ?_
    refine J_tableIn (pc := 1) (off := 39) (tgt := 40) dX2_combine_1 (by decide) (by decide) (by decide) (by decide) ?_
    refine J_iload_n (pc := 40) dX2_combine_40 rfl ?_
    refine J_iload_n (pc := 41) dX2_combine_41 rfl ?_
    refine J_iadd (pc := 42) dX2_combine_42 ?_
    exact J_iret (pc := 43) rfl rfl rfl dX2_combine_43 (rq hQ rfl rfl)
  · refine J_iload_n (pc := 0) dX2_combine_0 rfl ?_
    refine J_tableIn (pc := 1) (off := 43) (tgt := 44) dX2_combine_1 (by decide) (by decide) (by decide) (by decide) ?_
    refine J_iload_n (pc := 44) dX2_combine_44 rfl ?_
    refine J_iload_n (pc := 45) dX2_combine_45 rfl ?_
    refine J_isub (pc := 46) dX2_combine_46 ?_
    exact J_iret (pc := 47) rfl rfl rfl dX2_combine_47 (rq hQ rfl rfl)
  · refine J_iload_n (pc := 0) dX2_combine_0 rfl ?_
    refine J_tableIn (pc := 1) (off := 47) (tgt := 48) dX2_combine_1 (by decide) (by decide) (by decide) (by decide) ?_
    refine J_iload_n (pc := 48) dX2_combine_48 rfl ?_
    refine J_iload_n (pc := 49) dX2_combine_49 rfl ?_
    refine J_imul (pc := 50) dX2_combine_50 ?_
    exact J_iret (pc := 51) rfl rfl rfl dX2_combine_51 (rq hQ rfl rfl)
  · refine J_iload_n (pc := 0) dX2_combine_0 rfl ?_
    refine J_tableIn (pc := 1) (off := 51) (tgt := 52) dX2_combine_1 (by decide) (by decide) (by decide) (by decide) ?_
    refine J_iload_n (pc := 52) dX2_combine_52 rfl ?_
    refine J_if_ne (pc := 53) (tgt := 60) dX2_combine_53 (by decide) (fun c53 => ?_) (fun c53 => ?_)
    · refine J_iload_n (pc := 60) dX2_combine_60 rfl ?_
      refine J_iload_n (pc := 61) dX2_combine_61 rfl ?_
      refine J_idiv (pc := 62) dX2_combine_62 (by assumption) ?_
      exact J_iret (pc := 63) rfl rfl rfl dX2_combine_63 (rq hQ (by simp only [byv]; first | (rw [if_pos c53]; done) | rw [if_neg c53]) rfl)
    · refine J_iconst (pc := 56) (v := 0) dX2_combine_56 (by decide) ?_
      refine J_goto (pc := 57) (tgt := 63) dX2_combine_57 (by decide) ?_
      exact J_iret (pc := 63) rfl rfl rfl dX2_combine_63 (rq hQ (by simp only [byv]; first | (rw [if_pos c53]; done) | rw [if_neg c53]) rfl)
  · refine J_iload_n (pc := 0) dX2_combine_0 rfl ?_
    refine J_tableIn (pc := 1) (off := 63) (tgt := 64) dX2_combine_1 (by decide) (by decide) (by decide) (by decide) ?_
    refine J_iload_n (pc := 64) dX2_combine_64 rfl ?_
    refine J_if_ne (pc := 65) (tgt := 72) dX2_combine_65 (by decide) (fun c65 => ?_) (fun c65 => ?_)
    · refine J_iload_n (pc := 72) dX2_combine_72 rfl ?_
      refine J_iload_n (pc := 73) dX2_combine_73 rfl ?_
      refine J_irem (pc := 74) dX2_combine_74 (by assumption) ?_
      exact J_iret (pc := 75) rfl rfl rfl dX2_combine_75 (rq hQ (by simp only [byv]; first | (rw [if_pos c65]; done) | rw [if_neg c65]) rfl)
    · refine J_iconst (pc := 68) (v := 0) dX2_combine_68 (by decide) ?_
      refine J_goto (pc := 69) (tgt := 75) dX2_combine_69 (by decide) ?_
      exact J_iret (pc := 75) rfl rfl rfl dX2_combine_75 (rq hQ (by simp only [byv]; first | (rw [if_pos c65]; done) | rw [if_neg c65]) rfl)
  · refine J_iload_n (pc := 0) dX2_combine_0 rfl ?_
    refine J_tableIn (pc := 1) (off := 75) (tgt := 76) dX2_combine_1 (by decide) (by decide) (by decide) (by decide) ?_
    refine J_iload_n (pc := 76) dX2_combine_76 rfl ?_
    refine J_iload_n (pc := 77) dX2_combine_77 rfl ?_
    refine J_icmp_ge (pc := 78) (tgt := 85) dX2_combine_78 (by decide) (fun c78 => ?_) (fun c78 => ?_)
    · refine J_iload_n (pc := 85) dX2_combine_85 rfl ?_
      exact J_iret (pc := 86) rfl rfl rfl dX2_combine_86 (rq hQ (by first | exact (if_neg (Int32.not_lt.mpr c78)).symm | exact (if_pos (Int32.not_le.mp c78)).symm | (simp only [byv]; rw [if_neg (Int32.not_lt.mpr c78)]; done) | (simp only [byv]; rw [if_pos (Int32.not_le.mp c78)])) rfl)
    · refine J_iload_n (pc := 81) dX2_combine_81 rfl ?_
      refine J_goto (pc := 82) (tgt := 86) dX2_combine_82 (by decide) ?_
      exact J_iret (pc := 86) rfl rfl rfl dX2_combine_86 (rq hQ (by first | exact (if_neg (Int32.not_lt.mpr c78)).symm | exact (if_pos (Int32.not_le.mp c78)).symm | (simp only [byv]; rw [if_neg (Int32.not_lt.mpr c78)]; done) | (simp only [byv]; rw [if_pos (Int32.not_le.mp c78)])) rfl)
  · refine J_iload_n (pc := 0) dX2_combine_0 rfl ?_
    refine J_tableOut (pc := 1) (tgt := 87) dX2_combine_1 (by decide) (by decide) ?_
    refine J_iload_n (pc := 87) dX2_combine_87 rfl ?_
    refine J_iload_n (pc := 88) dX2_combine_88 rfl ?_
    refine J_icmp_le (pc := 89) (tgt := 96) dX2_combine_89 (by decide) (fun c89 => ?_) (fun c89 => ?_)
    · refine J_iload_n (pc := 96) dX2_combine_96 rfl ?_
      exact J_iret (pc := 97) rfl rfl rfl dX2_combine_97 (rq hQ (by first | exact (if_neg (Int32.not_lt.mpr c89)).symm | exact (if_pos (Int32.not_le.mp c89)).symm | (simp only [byv]; rw [if_neg (Int32.not_lt.mpr c89)]; done) | (simp only [byv]; rw [if_pos (Int32.not_le.mp c89)])) rfl)
    · refine J_iload_n (pc := 92) dX2_combine_92 rfl ?_
      refine J_goto (pc := 93) (tgt := 97) dX2_combine_93 (by decide) ?_
      exact J_iret (pc := 97) rfl rfl rfl dX2_combine_97 (rq hQ (by first | exact (if_neg (Int32.not_lt.mpr c89)).symm | exact (if_pos (Int32.not_le.mp c89)).symm | (simp only [byv]; rw [if_neg (Int32.not_lt.mpr c89)]; done) | (simp only [byv]; rw [if_pos (Int32.not_le.mp c89)])) rfl)
theorem enc_ge {q : Nat × Nat} (h0 : q.1 = 0 → q.2 < 1000) (h1 : q.1 = 1 → q.2 < 8) : 2000 ≤ enc q ↔ 2 ≤ q.1 := by
  unfold enc
  split
  · have := h0 (by assumption); omega
  · split
    · have := h1 (by assumption); omega
    · omega
theorem enc_lt {q : Nat × Nat} (h8 : q.1 ≤ 8) (h0 : q.1 = 0 → q.2 < 1000) (h1 : q.1 = 1 → q.2 < 8) : enc q < 2010 := by
  unfold enc
  split
  · have := h0 (by assumption); omega
  · split
    · have := h1 (by assumption); omega
    · omega
theorem pl_W : LawW 7 plW := by unfold LawW; decide
theorem cW_W {m : Nat} {wv : Nat → Nat × Nat} (h : LawW m wv) : LawW (cM m) (cW m wv) := by
  unfold cM cW
  by_cases e : m = 0
  · rw [if_pos e, if_pos e]; exact pl_W
  · rw [if_neg e, if_neg e]; exact h
theorem lst_u {wv : Nat → Nat × Nat} {kn f : Nat → Int32} {c : Int32} (h0 : (wv 0).1 < 2) : ∀ k, lst wv kn f (k + 1) = lst wv kn (upd f 0 c) (k + 1)
  | 0 => by
    show lstep _ _ kn (0, f) = lstep _ _ kn (0, upd f 0 c)
    unfold lstep
    rw [if_pos h0, if_pos h0]
    show (0 + 1, upd f 0 _) = (0 + 1, upd (upd f 0 c) 0 _)
    congr 1
    funext i
    by_cases e : i = 0
    · subst e; rw [pk_us, pk_us]
    · rw [pk_un e, pk_un e, pk_un e]
  | k + 1 => by
    show lstep _ _ kn (lst wv kn f (k + 1)) = lstep _ _ kn (lst wv kn (upd f 0 c) (k + 1))
    rw [lst_u h0 k]
theorem pl_lst (kn f : Nat → Int32) : (lst plW kn f 7).2 0 = kn 0 + kn 1 - kn 2 * 2 := by
  simp [lst, lstep, plW, upd, byv, nI]
/-- what the class's law comes to is what the model's does -/
theorem cl_val {m : Nat} {wv : Nat → Nat × Nat} (hW : LawW m wv) {kn kn' : Nat → Int32} (f : Nat → Int32) (hk : ∀ i, i < 8 → kn i = kn' i) : clp ((lst (cW m wv) kn f (cM m)).2 0) = pval m wv kn' := by
  rw [← lval_p hW f hk]
  unfold lval cM cW
  by_cases e : m = 0
  · subst e
    rw [if_pos rfl, if_pos rfl, pl_lst]
    show clp _ = clp (upd f 0 (kn 0 + kn 1 - 2 * kn 2) 0)
    rw [pk_us, Int32.mul_comm (kn 2) 2]
  · rw [if_neg e, if_neg e]
    obtain ⟨k, rfl⟩ : ∃ k, m = k + 1 := ⟨m - 1, by omega⟩
    have h0 : (wv 0).1 < 2 := by
      have := (hW.2 0 (by omega)).2.2.2.1
      have h2 : ldep wv 0 = 0 := rfl
      by_cases q : (wv 0).1 < 2
      · exact q
      · have := this (by omega); omega
    rw [lst_u (c := kn 0 + kn 1 - 2 * kn 2) h0 k]
    rfl
theorem clp_mm (x : Int32) : (if 0 < (if x < 99 then x else 99) then (if x < 99 then x else 99) else 0) = clp x := by
  unfold clp
  simp only [Int32.lt_iff_toInt_lt, Int32.le_iff_toInt_le]
  have e1 : (99 : Int32).toInt = 99 := rfl
  have e2 : (0 : Int32).toInt = 0 := rfl
  (repeat' split) <;> first | rfl | (exfalso; omega) | (apply Int32.toInt_inj.mp; omega)
theorem r_X2_power {g : Gp} {S : Sx} {b c e i m : Nat} {wv : Nat → Nat × Nat} (hLL : LLa b) (hCL : CLa c e i) (hW : LawW m wv) (hm : sf S b 2 = nI m) (hM : ∀ k, k < m → sa S (b + 1) k = nI (enc (wv k))) : RT g mX2_power 2 [.ref b, .ref i] S (some (.int (clp ((lst wv (sx S i) (sx S (b + 2)) m).2 0)))) (sXX S (b + 2) (lst wv (sx S i) (sx S (b + 2)) m).2) := by
  refine RT_ofQ ⟨rfl, rfl⟩ (Nat.le_of_ble_eq_true rfl) (fun sz Q hQ => ?_)
  have hne : i ≠ b + 2 := by
    rcases hLL with rfl | rfl <;> rcases hCL with ⟨rfl, rfl, rfl⟩ | ⟨rfl, rfl, rfl⟩ <;> decide
  have hm1 := hW.1
  have hs0 : S = sXX S (b + 2) (lst wv (sx S i) (sx S (b + 2)) 0).2 := by
    show S = (sf S, sp S, sa S, sl S, fun q => if q = b + 2 then sx S (b + 2) else sx S q)
    have : (fun q => if q = b + 2 then sx S (b + 2) else sx S q) = sx S := by
      funext q
      by_cases h : q = b + 2
      · rw [if_pos h, h]
      · rw [if_neg h]
    rw [this]
  refine J_iconst (pc := 0) (v := 0) dX2_power_0 (by decide) ?_
  refine J_istore_n (pc := 1) dX2_power_1 (by decide) rfl ?_
  refine J_iconst (pc := 2) (v := 0) dX2_power_2 (by decide) ?_
  refine J_istore_n (pc := 3) dX2_power_3 (by decide) rfl ?_
  refine J_cg2 hs0 ?_
  refine dn_ind (n := m) (P := fun k => ∀ x4 : Option Value, J g mX2_power 2 [] 4 [some (.ref b), some (.ref i), some (.int (nI (lst wv (sx S i) (sx S (b + 2)) k).1)), some (.int (ix k)), x4] [] (hs (sXX S (b + 2) (lst wv (sx S i) (sx S (b + 2)) k).2)) sz 0 0 Q) ?_ (fun k hk ih => ?_) 0 (Nat.zero_le _) none
  · intro x4
    refine J_iload_n (pc := 4) dX2_power_4 rfl ?_
    refine J_aload_n (pc := 5) dX2_power_5 rfl ?_
    refine J_geti (pc := 6) dX2_power_6 kc2 fl_X2_18 (by first | exact law_i2 (by assumption) | rfl) ?_
    refine J_icmp_ge (pc := 9) (tgt := 111) dX2_power_9 (by decide) (fun c9 => ?_) (fun c9 => absurd (ix_ge hm) c9)
    refine J_iconst (pc := 111) (v := 0) dX2_power_111 (by decide) ?_
    refine J_bipush (pc := 112) (v := 99) dX2_power_112 (by decide) ?_
    refine J_aload_n (pc := 114) dX2_power_114 rfl ?_
    refine J_getr (pc := 115) dX2_power_115 kc2 fl_X2_15 (by first | exact law_r1 (by assumption) | rfl) ?_
    refine J_iconst (pc := 118) (v := 0) dX2_power_118 (by decide) ?_
    refine J_xl (pc := 119) dX2_power_119 (by first | exact law_a1 (by assumption) | rfl) (rfl : (0 : Int32) = nI 0) ⟨by first | decide | omega, by decide⟩ ?_
    rw [sXX_s]
    refine J_mmin (pc := 120) dX2_power_120 ml_X2_94 (Nat.le_of_ble_eq_true rfl) ?_
    refine J_mmax (pc := 123) dX2_power_123 ml_X2_99 (Nat.le_of_ble_eq_true rfl) ?_
    exact J_iret (pc := 126) rfl rfl rfl dX2_power_126 (rq hQ (clp_mm _) rfl)
  · intro x4
    obtain ⟨w8, w0, w1, wd, w5⟩ := hW.2 k hk
    have hel := enc_lt w8 w0 w1
    have heg := enc_ge w0 w1
    refine J_iload_n (pc := 4) dX2_power_4 rfl ?_
    refine J_aload_n (pc := 5) dX2_power_5 rfl ?_
    refine J_geti (pc := 6) dX2_power_6 kc2 fl_X2_18 (by first | exact law_i2 (by assumption) | rfl) ?_
    refine J_icmp_ge (pc := 9) (tgt := 111) dX2_power_9 (by decide) (fun c9 => absurd c9 (ix_lt hm hk (by omega))) (fun c9 => ?_)
    refine J_aload_n (pc := 12) dX2_power_12 rfl ?_
    refine J_getr (pc := 13) dX2_power_13 kc2 fl_X2_9 (by first | exact law_r0 (by assumption) | rfl) ?_
    refine J_iload_n (pc := 16) dX2_power_16 rfl ?_
    refine J_il (pc := 17) dX2_power_17 (by first | exact law_a0 (by assumption) | rfl) (ix_nI k) ⟨by omega, by decide⟩ ?_
    refine J_t1 (y := nI (enc (wv k))) (hM k hk) ?_
    refine J_istore (pc := 18) dX2_power_18 (by decide) rfl ?_
    refine J_iload (pc := 20) dX2_power_20 rfl ?_
    refine J_sipush (pc := 22) (v := 2000) dX2_power_22 (by decide) ?_
    refine J_icmp_ge (pc := 25) (tgt := 70) dX2_power_25 (by decide) (fun c25 => ?_) (fun c25 => ?_)
    · have w2 : 2 ≤ (wv k).1 := heg.mp ((nI_leI (a := 2000) (by decide) (by omega)).mp c25)
      have e8 : enc (wv k) = 1998 + (wv k).1 := by unfold enc; rw [if_neg (by omega), if_neg (by omega)]
      have hd2 := wd w2
      have hd4 := w5
      have hd5 : (lst wv (sx S i) (sx S (b + 2)) k).1 ≤ 24 := by
        rw [lst_dep]
        cases k with
        | zero => exact Nat.zero_le _
        | succ q => exact (hW.2 q (by omega)).2.2.2.2
      rw [← lst_dep wv (sx S i) (sx S (b + 2)) k] at hd2
      rw [← lst_dep wv (sx S i) (sx S (b + 2)) (k + 1)] at hd4
      have hls : lst wv (sx S i) (sx S (b + 2)) (k + 1) = lstep (wv k).1 (wv k).2 (sx S i) (lst wv (sx S i) (sx S (b + 2)) k) := rfl
      unfold lstep at hls
      rw [if_neg (by omega)] at hls
      rw [hls] at hd4
      rw [hls] at ih
      generalize lst wv (sx S i) (sx S (b + 2)) k = p at *
      dsimp only at hd4 ih
      refine J_iload_n (pc := 70) dX2_power_70 rfl ?_
      refine J_iconst (pc := 71) (v := 2) dX2_power_71 (by decide) ?_
      refine J_icmp_lt (pc := 72) (tgt := 105) dX2_power_72 (by decide) (fun c72 => absurd c72 (Int32.not_lt.mpr (nI_le (a := 2) (by omega) (by omega)))) (fun c72 => ?_)
      refine J_iinc (pc := 75) (v := -1) dX2_power_75 rfl (by decide) rfl ?_
      refine J_cg1 (ls' := [some (.ref b), some (.ref i), some (.int (nI (p.1 - 1))), some (.int (ix k)), some (.int (nI (enc (wv k))))]) (by rw [← sb_m1 (by omega)]; rfl) ?_
      refine J_aload_n (pc := 78) dX2_power_78 rfl ?_
      refine J_getr (pc := 79) dX2_power_79 kc2 fl_X2_15 (by first | exact law_r1 (by assumption) | rfl) ?_
      refine J_iload_n (pc := 82) dX2_power_82 rfl ?_
      refine J_iconst (pc := 83) (v := 1) dX2_power_83 (by decide) ?_
      refine J_isub (pc := 84) dX2_power_84 ?_
      refine J_t1 (y := nI (p.1 - 2)) (by rw [show (1 : Int32) = nI 1 from rfl, pk_sub (by omega), show p.1 - 1 - 1 = p.1 - 2 by omega]) ?_
      refine J_iload (pc := 85) dX2_power_85 rfl ?_
      refine J_aload_n (pc := 87) dX2_power_87 rfl ?_
      refine J_getr (pc := 88) dX2_power_88 kc2 fl_X2_15 (by first | exact law_r1 (by assumption) | rfl) ?_
      refine J_iload_n (pc := 91) dX2_power_91 rfl ?_
      refine J_iconst (pc := 92) (v := 1) dX2_power_92 (by decide) ?_
      refine J_isub (pc := 93) dX2_power_93 ?_
      refine J_t1 (y := nI (p.1 - 2)) (by rw [show (1 : Int32) = nI 1 from rfl, pk_sub (by omega), show p.1 - 1 - 1 = p.1 - 2 by omega]) ?_
      refine J_xl (pc := 94) dX2_power_94 (law_a1 hLL) rfl ⟨by omega, by decide⟩ ?_
      rw [sXX_s]
      refine J_aload_n (pc := 95) dX2_power_95 rfl ?_
      refine J_getr (pc := 96) dX2_power_96 kc2 fl_X2_15 (by first | exact law_r1 (by assumption) | rfl) ?_
      refine J_iload_n (pc := 99) dX2_power_99 rfl ?_
      refine J_xl (pc := 100) dX2_power_100 (law_a1 hLL) rfl ⟨by omega, by decide⟩ ?_
      rw [sXX_s, e8]
      refine J_csr (pc := 101) (N := mX2_combine) dX2_power_101 ml_X2_90 cf_X2_combine cs_X2_combine (r_X2_combine ⟨w2, w8⟩) rfl rfl (Nat.le_of_ble_eq_true rfl) (by decide) ?_
      refine J_xs (pc := 104) dX2_power_104 (law_a1 hLL) rfl ⟨by omega, by decide⟩ ?_
      rw [sXX_put]
      refine J_iinc (pc := 105) (v := 1) dX2_power_105 rfl (by decide) rfl ?_
      refine J_goto (pc := 108) (tgt := 4) dX2_power_108 (by decide) ?_
      exact J_cg1 (by first | rfl | (rw [← nI_1]; rfl)) (ih _)
    · have w2 : (wv k).1 < 2 := Nat.lt_of_not_le (fun q => c25 ((nI_leI (a := 2000) (by decide) (by omega)).mpr (heg.mpr q)))
      have hd4 := w5
      rw [← lst_dep wv (sx S i) (sx S (b + 2)) (k + 1)] at hd4
      have hls : lst wv (sx S i) (sx S (b + 2)) (k + 1) = lstep (wv k).1 (wv k).2 (sx S i) (lst wv (sx S i) (sx S (b + 2)) k) := rfl
      unfold lstep at hls
      rw [if_pos w2] at hls
      rw [hls] at hd4
      rw [hls] at ih
      generalize lst wv (sx S i) (sx S (b + 2)) k = p at *
      dsimp only at hd4 ih
      refine J_iload_n (pc := 28) dX2_power_28 rfl ?_
      refine J_aload_n (pc := 29) dX2_power_29 rfl ?_
      refine J_getr (pc := 30) dX2_power_30 kc2 fl_X2_15 (by first | exact law_r1 (by assumption) | rfl) ?_
      refine J_al (pc := 33) dX2_power_33 (law_a1 hLL) (by decide) rfl ?_
      refine J_icmp_ge (pc := 34) (tgt := 105) dX2_power_34 (by decide) (fun c34 => absurd c34 (nI_ge (by omega) (by decide))) (fun c34 => ?_)
      refine J_aload_n (pc := 37) dX2_power_37 rfl ?_
      refine J_getr (pc := 38) dX2_power_38 kc2 fl_X2_15 (by first | exact law_r1 (by assumption) | rfl) ?_
      refine J_iload_n (pc := 41) dX2_power_41 rfl ?_
      refine J_iload (pc := 42) dX2_power_42 rfl ?_
      refine J_sipush (pc := 44) (v := 1000) dX2_power_44 (by decide) ?_
      refine J_icmp_ge (pc := 47) (tgt := 55) dX2_power_47 (by decide) (fun c47 => ?_) (fun c47 => ?_)
      · have q1 : (wv k).1 = 1 := by
          rcases Nat.lt_or_ge (wv k).1 1 with q | q
          · have q0 : (wv k).1 = 0 := by omega
            have := w0 q0
            have e1 : enc (wv k) = (wv k).2 := by unfold enc; rw [if_pos q0]
            have := (nI_leI (a := 1000) (by decide) (by omega)).mp c47
            omega
          · omega
        have e1 : enc (wv k) = 1000 + (wv k).2 := by unfold enc; rw [if_neg (by omega), if_pos q1]
        rw [if_neg (by omega)] at ih
        refine J_aload_n (pc := 55) dX2_power_55 rfl ?_
        refine J_iload (pc := 56) dX2_power_56 rfl ?_
        refine J_sipush (pc := 58) (v := 1000) dX2_power_58 (by decide) ?_
        refine J_isub (pc := 61) dX2_power_61 ?_
        refine J_t1 (y := nI (wv k).2) (by rw [e1, show (1000 : Int32) = nI 1000 from rfl, pk_sub (by omega), Nat.add_sub_cancel_left]) ?_
        refine J_xl (pc := 62) dX2_power_62 (cvn_i hCL) rfl ⟨w1 q1, by decide⟩ ?_
        refine J_t1 (y := sx S i (wv k).2) (by show (if i = b + 2 then p.2 else sx S i) _ = _; rw [if_neg hne]) ?_
        refine J_xs (pc := 63) dX2_power_63 (law_a1 hLL) rfl ⟨by omega, by decide⟩ ?_
        refine J_iinc (pc := 64) (v := 1) dX2_power_64 rfl (by decide) rfl ?_
        refine J_goto (pc := 67) (tgt := 105) dX2_power_67 (by decide) ?_
        rw [sXX_put]
        refine J_iinc (pc := 105) (v := 1) dX2_power_105 rfl (by decide) rfl ?_
        refine J_goto (pc := 108) (tgt := 4) dX2_power_108 (by decide) ?_
        exact J_cg1 (by first | rfl | (rw [← nI_1]; rfl)) (ih _)
      · have q0 : (wv k).1 = 0 := by
          rcases Nat.lt_or_ge (wv k).1 1 with q | q
          · omega
          · exact absurd ((nI_leI (a := 1000) (by decide) (by omega)).mpr (by unfold enc; rw [if_neg (by omega), if_pos (by omega)]; omega)) c47
        have e1 : enc (wv k) = (wv k).2 := by unfold enc; rw [if_pos q0]
        rw [if_pos q0] at ih
        rw [← e1] at ih
        refine J_iload (pc := 50) dX2_power_50 rfl ?_
        refine J_goto (pc := 52) (tgt := 63) dX2_power_52 (by decide) ?_
        refine J_xs (pc := 63) dX2_power_63 (law_a1 hLL) rfl ⟨by omega, by decide⟩ ?_
        refine J_iinc (pc := 64) (v := 1) dX2_power_64 rfl (by decide) rfl ?_
        refine J_goto (pc := 67) (tgt := 105) dX2_power_67 (by decide) ?_
        rw [sXX_put]
        refine J_iinc (pc := 105) (v := 1) dX2_power_105 rfl (by decide) rfl ?_
        refine J_goto (pc := 108) (tgt := 4) dX2_power_108 (by decide) ?_
        exact J_cg1 (by first | rfl | (rw [← nI_1]; rfl)) (ih _)

/-! ===== what work changes: the class's cells beside the model's row ===== -/
section RCs
variable {d : HD} {c f : Row} {r s p n : Nat}
theorem msk_set {P q : Nat → Bool} (hn : n ≤ 32) (hr : r < n) (h : ∀ k, k < n → q k = (P k || decide (k = r))) : msk P n ||| (1 : Int32) <<< (nI r &&& 31) = msk q n := by
  apply bt_ext
  intro k hk
  rw [bt_or, bt_1 (show r < 32 by omega), bt_msk P n hn, bt_msk q n hn]
  by_cases e : k < n
  · rw [decide_eq_true e, h k e]
    by_cases e2 : k = r
    · subst e2; simp
    · rw [decide_eq_false e2, decide_eq_false (fun z => e2 z.symm)]; simp
  · rw [decide_eq_false e, decide_eq_false (show ¬ r = k by omega)]; rfl
theorem msk_clr {P q : Nat → Bool} (hn : n ≤ 32) (hr : r < n) (h : ∀ k, k < n → q k = (P k && !decide (k = r))) : msk P n &&& ((1 : Int32) <<< (nI r &&& 31) ^^^ -1) = msk q n := by
  apply bt_ext
  intro k hk
  rw [bt_and, bt_xm _ hk, bt_1 (show r < 32 by omega), bt_msk P n hn, bt_msk q n hn]
  by_cases e : k < n
  · rw [decide_eq_true e, h k e]
    by_cases e2 : k = r
    · subst e2; simp
    · rw [decide_eq_false e2, decide_eq_false (fun z => e2 z.symm)]; simp
  · rw [decide_eq_false e]; rfl
theorem RC_give (h : RC d c f) (h8 : dNs d ≤ 8) (h10 : dNr d ≤ 10) (h8' : dNp d ≤ 8) (hr : r < dNr d) : RC d (upd (upd c 2 (c 2 ||| (1 : Int32) <<< (nI r &&& 31))) (5 + r) 0) (upd f (16 + r) 0) := by
  obtain ⟨a0, a1, a2, a3, a4, a5, a6, a7, a8, a9⟩ := h
  refine ⟨?_, ?_, ?_, ?_, ?_, fun k hk hq => ?_, fun k hk => ?_, fun k hk => ?_, fun k hk => ?_, fun k hk => ?_⟩
  · rw [pk_un (by omega), pk_un (by omega), pk_un (by omega)]; exact a0
  · rw [pk_un (by omega), pk_un (by omega), a1]; exact msk_congr (fun k hk => decide_eq_decide.mpr (by rw [pk_un (by omega)]))
  · rw [pk_un (by omega), pk_us, a2]
    refine msk_set (by omega) hr (fun k hk => ?_)
    by_cases e : k = r
    · subst e; rw [pk_us]; simp
    · rw [pk_un (by omega), decide_eq_false e, Bool.or_false]
  · rw [pk_un (by omega), pk_un (by omega), a3]; exact msk_congr (fun k hk => decide_eq_decide.mpr (by rw [pk_un (by omega)]))
  · rw [pk_un (by omega), pk_un (by omega), a4]; exact msk_congr (fun k hk => decide_eq_decide.mpr (by rw [pk_un (by omega)]))
  · by_cases e : k = r
    · subst e; rw [pk_us, pk_us]
    · rw [pk_un (by omega)] at hq
      rw [pk_un (by omega), pk_un (by omega), pk_un (by omega)]; exact a5 k hk hq
  · rw [pk_un (by omega), pk_un (by omega), pk_un (by omega)]; exact a6 k hk
  · rw [pk_un (by omega), pk_un (by omega), pk_un (by omega)]; exact a7 k hk
  · rw [pk_un (by omega)]; exact a8 k hk
  · rw [pk_un (by omega)]; exact a9 k hk
theorem RC_back (h : RC d c f) (h8 : dNs d ≤ 8) (h10 : dNr d ≤ 10) (h8' : dNp d ≤ 8) (hr : r < dNr d) : RC d (upd c 2 (c 2 &&& ((1 : Int32) <<< (nI r &&& 31) ^^^ -1))) (upd f (16 + r) (-1)) := by
  obtain ⟨a0, a1, a2, a3, a4, a5, a6, a7, a8, a9⟩ := h
  refine ⟨?_, ?_, ?_, ?_, ?_, fun k hk hq => ?_, fun k hk => ?_, fun k hk => ?_, fun k hk => ?_, fun k hk => ?_⟩
  · rw [pk_un (by omega), pk_un (by omega)]; exact a0
  · rw [pk_un (by omega), a1]; exact msk_congr (fun k hk => decide_eq_decide.mpr (by rw [pk_un (by omega)]))
  · rw [pk_us, a2]
    refine msk_clr (by omega) hr (fun k hk => ?_)
    by_cases e : k = r
    · subst e; rw [pk_us]; simp
    · rw [pk_un (by omega), decide_eq_false e, Bool.not_false, Bool.and_true]
  · rw [pk_un (by omega), a3]; exact msk_congr (fun k hk => decide_eq_decide.mpr (by rw [pk_un (by omega)]))
  · rw [pk_un (by omega), a4]; exact msk_congr (fun k hk => decide_eq_decide.mpr (by rw [pk_un (by omega)]))
  · by_cases e : k = r
    · subst e; rw [pk_us] at hq; exact absurd rfl hq
    · rw [pk_un (by omega)] at hq
      rw [pk_un (by omega), pk_un (by omega)]; exact a5 k hk hq
  · rw [pk_un (by omega), pk_un (by omega)]; exact a6 k hk
  · rw [pk_un (by omega), pk_un (by omega)]; exact a7 k hk
  · rw [pk_un (by omega)]; exact a8 k hk
  · rw [pk_un (by omega)]; exact a9 k hk
theorem RC_dv {v : Int32} (h : RC d c f) (h8 : dNs d ≤ 8) (h10 : dNr d ≤ 10) (h8' : dNp d ≤ 8) (hr : r < dNr d) (hk1 : f (16 + r) ≠ -1) (hv : v ≠ -1) : RC d (upd c (5 + r) v) (upd f (16 + r) v) := by
  obtain ⟨a0, a1, a2, a3, a4, a5, a6, a7, a8, a9⟩ := h
  refine ⟨?_, ?_, ?_, ?_, ?_, fun k hk hq => ?_, fun k hk => ?_, fun k hk => ?_, fun k hk => ?_, fun k hk => ?_⟩
  · rw [pk_un (by omega), pk_un (by omega)]; exact a0
  · rw [pk_un (by omega), a1]; exact msk_congr (fun k hk => decide_eq_decide.mpr (by rw [pk_un (by omega)]))
  · rw [pk_un (by omega), a2]
    refine msk_congr (fun k hk => decide_eq_decide.mpr ?_)
    by_cases e : k = r
    · subst e; rw [pk_us]; exact ⟨fun _ => hv, fun _ => hk1⟩
    · rw [pk_un (by omega)]
  · rw [pk_un (by omega), a3]; exact msk_congr (fun k hk => decide_eq_decide.mpr (by rw [pk_un (by omega)]))
  · rw [pk_un (by omega), a4]; exact msk_congr (fun k hk => decide_eq_decide.mpr (by rw [pk_un (by omega)]))
  · by_cases e : k = r
    · subst e; rw [pk_us, pk_us]
    · rw [pk_un (by omega)] at hq
      rw [pk_un (by omega), pk_un (by omega)]; exact a5 k hk hq
  · rw [pk_un (by omega), pk_un (by omega)]; exact a6 k hk
  · rw [pk_un (by omega), pk_un (by omega)]; exact a7 k hk
  · rw [pk_un (by omega)]; exact a8 k hk
  · rw [pk_un (by omega)]; exact a9 k hk
theorem RC_lv {v : Int32} (h : RC d c f) (h8 : dNs d ≤ 8) (h10 : dNr d ≤ 10) (h8' : dNp d ≤ 8) (hs : s < dNs d) : RC d (upd c (15 + s) v) (upd f (8 + s) v) := by
  obtain ⟨a0, a1, a2, a3, a4, a5, a6, a7, a8, a9⟩ := h
  refine ⟨?_, ?_, ?_, ?_, ?_, fun k hk hq => ?_, fun k hk => ?_, fun k hk => ?_, fun k hk => ?_, fun k hk => ?_⟩
  · rw [pk_un (by omega), pk_un (by omega)]; exact a0
  · rw [pk_un (by omega), a1]; exact msk_congr (fun k hk => decide_eq_decide.mpr (by rw [pk_un (by omega)]))
  · rw [pk_un (by omega), a2]; exact msk_congr (fun k hk => decide_eq_decide.mpr (by rw [pk_un (by omega)]))
  · rw [pk_un (by omega), a3]; exact msk_congr (fun k hk => decide_eq_decide.mpr (by rw [pk_un (by omega)]))
  · rw [pk_un (by omega), a4]; exact msk_congr (fun k hk => decide_eq_decide.mpr (by rw [pk_un (by omega)]))
  · rw [pk_un (by omega)] at hq
    rw [pk_un (by omega), pk_un (by omega)]; exact a5 k hk hq
  · by_cases e : k = s
    · subst e; rw [pk_us, pk_us]
    · rw [pk_un (by omega), pk_un (by omega)]; exact a6 k hk
  · rw [pk_un (by omega), pk_un (by omega)]; exact a7 k hk
  · rw [pk_un (by omega)]; exact a8 k hk
  · rw [pk_un (by omega)]; exact a9 k hk
theorem RC_cur (h : RC d c f) (h8 : dNs d ≤ 8) (h10 : dNr d ≤ 10) (h8' : dNp d ≤ 8) (hr : r < dNr d) (hp : p < dNp d) : RC d (upd (upd (upd c 3 (c 3 ||| (1 : Int32) <<< (nI p &&& 31))) 4 (c 4 ||| (1 : Int32) <<< (nI r &&& 31))) (23 + p) (nI r)) (rCur r p f) := by
  obtain ⟨a0, a1, a2, a3, a4, a5, a6, a7, a8, a9⟩ := h
  have hnr : nI r ≠ -1 := nI_nm (by omega)
  unfold rCur
  refine ⟨?_, ?_, ?_, ?_, ?_, fun k hk hq => ?_, fun k hk => ?_, fun k hk => ?_, fun k hk => ?_, fun k hk => ?_⟩
  · rw [pk_un (by omega), pk_un (by omega), pk_un (by omega), pk_un (by omega), pk_un (by omega)]; exact a0
  · rw [pk_un (by omega), pk_un (by omega), pk_un (by omega), a1]; exact msk_congr (fun k hk => decide_eq_decide.mpr (by rw [pk_un (by omega), pk_un (by omega)]))
  · rw [pk_un (by omega), pk_un (by omega), pk_un (by omega), a2]; exact msk_congr (fun k hk => decide_eq_decide.mpr (by rw [pk_un (by omega), pk_un (by omega)]))
  · rw [pk_un (by omega), pk_un (by omega), pk_us, a3]
    refine msk_set (by omega) hp (fun k hk => ?_)
    rw [pk_un (by omega)]
    by_cases e : k = p
    · subst e; rw [pk_us]; simp [hnr]
    · rw [pk_un (by omega), decide_eq_false e, Bool.or_false]
  · rw [pk_un (by omega), pk_us, a4]
    refine msk_set (by omega) hr (fun k hk => ?_)
    by_cases e : k = r
    · subst e; rw [pk_us]; simp
    · rw [pk_un (by omega), pk_un (by omega), decide_eq_false e, Bool.or_false]
  · rw [pk_un (by omega), pk_un (by omega)] at hq
    rw [pk_un (by omega), pk_un (by omega), pk_un (by omega), pk_un (by omega), pk_un (by omega)]; exact a5 k hk hq
  · rw [pk_un (by omega), pk_un (by omega), pk_un (by omega), pk_un (by omega), pk_un (by omega)]; exact a6 k hk
  · by_cases e : k = p
    · subst e; rw [pk_us, pk_un (by omega), pk_us]
    · rw [pk_un (by omega), pk_un (by omega), pk_un (by omega), pk_un (by omega), pk_un (by omega)]; exact a7 k hk
  · rw [pk_un (by omega), pk_un (by omega)]; exact a8 k hk
  · by_cases e : k = r
    · subst e; rw [pk_us]; exact Or.inr rfl
    · rw [pk_un (by omega), pk_un (by omega)]; exact a9 k hk
theorem RC_die (h : RC d c f) (h8 : dNs d ≤ 8) (h10 : dNr d ≤ 10) (h8' : dNp d ≤ 8) (hs : s < dNs d) : RC d (upd (upd c 1 (c 1 &&& ((1 : Int32) <<< (nI s &&& 31) ^^^ -1))) 2 (c 2 &&& (msk (fun r => decide (dOw d r = s)) (dNr d) ^^^ -1))) (rDie d s f) := by
  obtain ⟨a0, a1, a2, a3, a4, a5, a6, a7, a8, a9⟩ := h
  have hd1 : ∀ k, ¬ (16 ≤ k ∧ k < 26) → dieF d s (dNr d) f k = f k := fun k hk => if_neg (fun z => hk ⟨z.1, by omega⟩)
  have hd2 : ∀ k, k < dNr d → dieF d s (dNr d) f (16 + k) = if dOw d k = s then -1 else f (16 + k) := by
    intro k hk
    unfold dieF
    rw [Nat.add_sub_cancel_left]
    by_cases e : dOw d k = s
    · rw [if_pos e, if_pos ⟨by omega, by omega, e⟩]
    · rw [if_neg e, if_neg (fun z => e z.2.2)]
  unfold rDie
  refine ⟨?_, ?_, ?_, ?_, ?_, fun k hk hq => ?_, fun k hk => ?_, fun k hk => ?_, fun k hk => ?_, fun k hk => ?_⟩
  · rw [pk_un (by omega), pk_un (by omega), pk_un (by omega), hd1 _ (by omega)]; exact a0
  · rw [pk_un (by omega), pk_us, a1]
    refine msk_clr (by omega) hs (fun k hk => ?_)
    by_cases e : k = s
    · subst e; rw [pk_us]; simp
    · rw [pk_un (by omega), hd1 _ (by omega), decide_eq_false e, Bool.not_false, Bool.and_true]
  · rw [pk_us, a2]
    refine idl_e (by omega) (fun k hk => ?_)
    rw [pk_un (by omega), hd2 k hk]
    by_cases e : dOw d k = s
    · rw [if_pos e, decide_eq_true e]; simp
    · rw [if_neg e, decide_eq_false e, Bool.not_false, Bool.and_true]
  · rw [pk_un (by omega), pk_un (by omega), a3]; exact msk_congr (fun k hk => decide_eq_decide.mpr (by rw [pk_un (by omega), hd1 _ (by omega)]))
  · rw [pk_un (by omega), pk_un (by omega), a4]; exact msk_congr (fun k hk => decide_eq_decide.mpr (by rw [pk_un (by omega), hd1 _ (by omega)]))
  · rw [pk_un (by omega), hd2 k hk] at hq
    rw [pk_un (by omega), pk_un (by omega), pk_un (by omega), hd2 k hk]
    by_cases e : dOw d k = s
    · rw [if_pos e] at hq; exact absurd rfl hq
    · rw [if_neg e] at hq ⊢; exact a5 k hk hq
  · rw [pk_un (by omega), pk_un (by omega), pk_un (by omega), hd1 _ (by omega)]; exact a6 k hk
  · rw [pk_un (by omega), pk_un (by omega), pk_un (by omega), hd1 _ (by omega)]; exact a7 k hk
  · by_cases e : k = s
    · subst e; rw [pk_us]; exact Or.inr rfl
    · rw [pk_un (by omega), hd1 _ (by omega)]; exact a8 k hk
  · rw [pk_un (by omega), hd1 _ (by omega)]; exact a9 k hk
/-- the days of the kept ones below i have gone by -/
def dyF (i : Nat) (f : Row) : Row := fun k => if 16 ≤ k ∧ k < 16 + i then f k + (if f k ≠ -1 then 1 else 0) else f k
theorem RC_dy (h : RC d c (dyF (dNr d) f)) (h8 : dNs d ≤ 8) (h10 : dNr d ≤ 10) (h8' : dNp d ≤ 8) : RC d (upd (upd c 4 0) 0 (c 0 + 1)) (rDay (dNr d) f) := by
  obtain ⟨a0, a1, a2, a3, a4, a5, a6, a7, a8, a9⟩ := h
  have hd1 : ∀ k, ¬ (26 ≤ k ∧ k < 36) → dayF (dNr d) f k = dyF (dNr d) f k := by
    intro k hk
    unfold dayF dyF
    by_cases e : 16 ≤ k ∧ k < 16 + dNr d
    · rw [if_pos e, if_pos e]
    · rw [if_neg e, if_neg e, if_neg (by omega)]
  have hd2 : ∀ k, k < dNr d → dayF (dNr d) f (26 + k) = 0 := by
    intro k hk
    unfold dayF
    rw [if_neg (by omega), if_pos (by omega)]
  have hd3 : dyF (dNr d) f 44 = f 44 := if_neg (by omega)
  unfold rDay
  refine ⟨?_, ?_, ?_, ?_, ?_, fun k hk hq => ?_, fun k hk => ?_, fun k hk => ?_, fun k hk => ?_, fun k hk => ?_⟩
  · rw [pk_us, pk_us, a0, hd3]
  · rw [pk_un (by omega), pk_un (by omega), a1]; exact msk_congr (fun k hk => decide_eq_decide.mpr (by rw [pk_un (by omega), hd1 _ (by omega)]))
  · rw [pk_un (by omega), pk_un (by omega), a2]; exact msk_congr (fun k hk => decide_eq_decide.mpr (by rw [pk_un (by omega), hd1 _ (by omega)]))
  · rw [pk_un (by omega), pk_un (by omega), a3]; exact msk_congr (fun k hk => decide_eq_decide.mpr (by rw [pk_un (by omega), hd1 _ (by omega)]))
  · rw [pk_un (by omega), pk_us]
    have : ∀ n, n ≤ dNr d → msk (fun r => decide (upd (dayF (dNr d) f) 44 (f 44 + 1) (26 + r) = 1)) n = 0 := by
      intro n hn
      induction n with
      | zero => rfl
      | succ n ih =>
        rw [← msk_f0, ih (by omega)]
        rw [pk_un (by omega), hd2 n (by omega)]
        decide
    exact (this (dNr d) (Nat.le_refl _)).symm
  · rw [pk_un (by omega), hd1 _ (by omega)] at hq
    rw [pk_un (by omega), pk_un (by omega), pk_un (by omega), hd1 _ (by omega)]; exact a5 k hk hq
  · rw [pk_un (by omega), pk_un (by omega), pk_un (by omega), hd1 _ (by omega)]; exact a6 k hk
  · rw [pk_un (by omega), pk_un (by omega), pk_un (by omega), hd1 _ (by omega)]; exact a7 k hk
  · rw [pk_un (by omega), hd1 _ (by omega)]; exact a8 k hk
  · rw [pk_un (by omega), hd2 k hk]; exact Or.inl rfl
end RCs
/-- the days of the kept ones are no more than B -/
def DB (B : Nat) (d : HD) (f : Row) : Prop := ∀ r, r < dNr d → f (16 + r) = -1 ∨ ∃ q, q ≤ B ∧ f (16 + r) = nI q
def CU (S : Sx) (e : Nat) (d : HD) (f' : Row) (X : Sx) : Prop := ∃ c' T, X = w1 (sAA S e c') T ∧ RC d c' f'
theorem CU_r {S : Sx} {e : Nat} {d : HD} {f : Row} (h : RC d (sa S e) f) : CU S e d f S := ⟨sa S e, S, by rw [sAA_self]; rfl, h⟩
theorem CU_w {S T : Sx} {e : Nat} {d : HD} {f : Row} (h : RC d (sa S e) f) : CU S e d f (w1 S T) := ⟨sa S e, T, by rw [sAA_self], h⟩
theorem CX_AA {S : Sx} {c e i a b m : Nat} {d : HD} {wv : Nat → Nat × Nat} {f f' c' : Row} (hX : CX S c e i a b d m wv f) (h : RC d c' f') : CX (sAA S e c') c e i a b d m wv f' := by
  obtain ⟨hCL, hHL, hLL, hp2, hp3, hHC, hv, hW, hLC, hRC⟩ := hX
  have hn : ∀ q, 1 ≤ q → q ≤ 8 → a + q ≠ e := by
    intro q h1 h2
    rcases hCL with ⟨rfl, rfl, rfl⟩ | ⟨rfl, rfl, rfl⟩ <;> rcases hHL with rfl | rfl <;> omega
  have hb : b + 1 ≠ e := by
    rcases hCL with ⟨rfl, rfl, rfl⟩ | ⟨rfl, rfl, rfl⟩ <;> rcases hLL with rfl | rfl <;> omega
  refine ⟨hCL, hHL, hLL, hp2, hp3, ⟨hHC.1, hHC.2.1, hHC.2.2.1, fun s hs => ?_, fun r hr => ?_, fun p hp => ?_⟩, hv, hW, ⟨hLC.1, fun k hk => ?_⟩, ?_⟩
  · rw [sAA_o (hn 1 (by omega) (by omega)), sAA_o (hn 2 (by omega) (by omega)), sAA_o (hn 3 (by omega) (by omega))]
    exact hHC.2.2.2.1 s hs
  · rw [sAA_o (hn 4 (by omega) (by omega)), sAA_o (hn 5 (by omega) (by omega)), sAA_o (hn 6 (by omega) (by omega))]
    exact hHC.2.2.2.2.1 r hr
  · rw [sAA_o (hn 7 (by omega) (by omega)), sAA_o (hn 8 (by omega) (by omega))]
    exact hHC.2.2.2.2.2 p hp
  · rw [sAA_o hb]
    exact hLC.2 k hk
  · rw [sAA_s]
    exact h
theorem cc_i {d : HD} {m : Nat} {wv : Nat → Nat × Nat} {f : Row} {r p : Nat} : cnB d m wv f r p 0 = true ↔ (dIl d r = dPi d p ∧ nI (dPn d p) ≤ pwN d m wv f r) := by rw [cnB_i, pwX_0]
theorem w1_sAAs {S T : Sx} {a : Nat} {f : Row} : sa (w1 (sAA S a f) T) a = f := sAA_s S a f
theorem upd_cm {f : Row} {j k : Nat} {x y : Int32} (h : j ≠ k) : upd (upd f j x) k y = upd (upd f k y) j x := by
  funext i
  by_cases e : i = k
  · subst e; rw [pk_us, pk_un (fun z => h z.symm), pk_us]
  · by_cases e2 : i = j
    · subst e2; rw [pk_un e, pk_us, pk_us]
    · rw [pk_un e, pk_un e2, pk_un e2, pk_un e]
theorem lapF_0 (d : HD) (s : Nat) (f : Row) : lapF d s 0 f = f := by
  funext k
  exact if_neg (by omega)
theorem lapF_n {d : HD} {s i : Nat} {f : Row} (h : ¬ (dOw d i = s ∧ f (16 + i) ≠ -1)) : lapF d s (i + 1) f = lapF d s i f := by
  funext k
  unfold lapF
  by_cases e : k = 16 + i
  · subst e
    rw [Nat.add_sub_cancel_left, if_neg (fun z => h z.2.2), if_neg (by omega)]
  · by_cases q : 16 ≤ k ∧ k < 16 + i ∧ dOw d (k - 16) = s ∧ f k ≠ -1
    · rw [if_pos q, if_pos ⟨q.1, by omega, q.2.2⟩]
    · rw [if_neg q, if_neg (fun z => q ⟨z.1, by omega, z.2.2⟩)]
theorem lapF_y {d : HD} {s i : Nat} {f : Row} (h : dOw d i = s ∧ f (16 + i) ≠ -1) : lapF d s (i + 1) f = upd (lapF d s i f) (16 + i) (f (16 + i) / 2) := by
  funext k
  by_cases e : k = 16 + i
  · subst e
    rw [pk_us]
    unfold lapF
    rw [Nat.add_sub_cancel_left, if_pos ⟨by omega, by omega, h⟩]
  · rw [pk_un e]
    unfold lapF
    by_cases q : 16 ≤ k ∧ k < 16 + i ∧ dOw d (k - 16) = s ∧ f k ≠ -1
    · rw [if_pos q, if_pos ⟨q.1, by omega, q.2.2⟩]
    · rw [if_neg q, if_neg (fun z => q ⟨z.1, by omega, z.2.2⟩)]
theorem lapF_at {d : HD} {s i : Nat} {f : Row} : lapF d s i f (16 + i) = f (16 + i) := if_neg (by omega)
theorem dyF_0 (f : Row) : dyF 0 f = f := by
  funext k
  exact if_neg (by omega)
theorem dyF_at {i : Nat} {f : Row} : dyF i f (16 + i) = f (16 + i) := if_neg (by omega)
theorem dyF_s {i : Nat} {f : Row} : dyF (i + 1) f = upd (dyF i f) (16 + i) (f (16 + i) + (if f (16 + i) ≠ -1 then 1 else 0)) := by
  funext k
  by_cases e : k = 16 + i
  · subst e
    rw [pk_us]
    unfold dyF
    rw [if_pos (by omega)]
  · rw [pk_un e]
    unfold dyF
    by_cases q : 16 ≤ k ∧ k < 16 + i
    · rw [if_pos q, if_pos (by omega)]
    · rw [if_neg q, if_neg (by omega)]
theorem dyF_n {i : Nat} {f : Row} (h : ¬ f (16 + i) ≠ -1) : dyF (i + 1) f = dyF i f := by
  rw [dyF_s, if_neg h, Int32.add_zero]
  funext k
  by_cases e : k = 16 + i
  · subst e; rw [pk_us, dyF_at]
  · rw [pk_un e]
theorem r_X0_give {g : Gp} {S : Sx} {r : Nat} {c e i a b m : Nat} {d : HD} {wv : Nat → Nat × Nat} {f : Row} (hX : CX S c e i a b d m wv f) (hr : r < dNr d) : RI g mX0_give 1 [.ref c, .int (nI r)] S (fun x X => x = bI (doA d m wv f (0, r, 0, 0)).2 ∧ CU S e d (doA d m wv f (0, r, 0, 0)).1 X) := by
  refine RI_ofQ ⟨rfl, rfl⟩ (Nat.le_of_ble_eq_true rfl) (fun sz Q hQ => ?_)
  obtain ⟨hCL, hHL, hLL, hp2, hp3, hHC, hv, hW, hLC, hRC⟩ := id hX
  have n1 : dNs d ≤ 8 := hv.1
  have n2 : dNr d ≤ 10 := hv.2.1
  have n3 : dNp d ≤ 8 := hv.2.2.1
  have ho : dOw d r < dNs d := (hv.2.2.2.2.2.1 r hr).1
  refine J_aload_n (pc := 0) dX0_give_0 rfl ?_
  refine J_iload_n (pc := 1) dX0_give_1 rfl ?_
  refine J_cvr (pc := 2) (N := mX0_isKept) dX0_give_2 ml_X0_57 cf_X0_isKept cv_X0_isKept (r_X0_isKept hX hr) rfl rfl (Nat.le_of_ble_eq_true rfl) (by decide) (rv_of (ci := 0) (by first | exact cvn_n (by assumption) | rfl) rfl rfl) ?_
  refine J_ifp_ne (pc := 5) (tgt := 24) dX0_give_5 (by decide) (fun c5 => ?_) (fun c5 => ?_)
  · refine J_iconst (pc := 24) (v := 0) dX0_give_24 (by decide) ?_
    exact J_iret (pc := 25) rfl rfl rfl dX0_give_25 (hQ _ _ (by rw [show (doA d m wv f (0, r, 0, 0)) = (f, false) from if_pos (by first | exact Or.inl c5 | exact Or.inr ((hRC.2.2.2.2.2.2.2.2.1 _ ho).resolve_left c21))]; exact ⟨rfl, CU_r hRC⟩))
  · refine J_aload_n (pc := 8) dX0_give_8 rfl ?_
    refine J_aload_n (pc := 9) dX0_give_9 rfl ?_
    refine J_getp (pc := 10) dX0_give_10 kc0 fl_X0_20 (by first | exact cvn_p2 (by assumption) | rfl) ?_
    refine J_tr hp2 ?_
    refine J_getrN (pc := 13) dX0_give_13 kc1 fl_X0_60 (by first | exact hou_r3 (by assumption) | rfl) ?_
    refine J_iload_n (pc := 16) dX0_give_16 rfl ?_
    refine J_il (pc := 17) dX0_give_17 (by first | exact hou_a3 (by assumption) | rfl) (by first | with_reducible rfl | assumption | exact ix_nI _ | rfl) ⟨by first | decide | omega, by decide⟩ ?_
    refine J_t1 ((hHC.2.2.2.2.1 _ hr).1) ?_
    refine J_cvr (pc := 18) (N := mX0_isLiving) dX0_give_18 ml_X0_49 cf_X0_isLiving cv_X0_isLiving (r_X0_isLiving hX ho) rfl rfl (Nat.le_of_ble_eq_true rfl) (by decide) (rv_of (ci := 0) (by first | exact cvn_n (by assumption) | rfl) rfl rfl) ?_
    refine J_ifp_ne (pc := 21) (tgt := 26) dX0_give_21 (by decide) (fun c21 => ?_) (fun c21 => ?_)
    · refine J_aload_n (pc := 26) dX0_give_26 rfl ?_
      refine J_getr (pc := 27) dX0_give_27 kc0 fl_X0_11 (by first | exact cvn_r0 (by assumption) | rfl) ?_
      refine J_iconst (pc := 30) (v := 2) dX0_give_30 (by decide) ?_
      refine J_dup2 (pc := 31) dX0_give_31 rfl rfl ?_
      refine J_il (pc := 32) dX0_give_32 (by first | exact cvn_e (by assumption) | rfl) (rfl : (2 : Int32) = nI 2) ⟨by first | decide | omega, by decide⟩ ?_
      refine J_iconst (pc := 33) (v := 1) dX0_give_33 (by decide) ?_
      refine J_iload_n (pc := 34) dX0_give_34 rfl ?_
      refine J_ishl (pc := 35) dX0_give_35 ?_
      refine J_ior (pc := 36) dX0_give_36 ?_
      refine J_is (pc := 37) dX0_give_37 (by first | exact cvn_e (by assumption) | rfl) (rfl : (2 : Int32) = nI 2) ⟨by first | decide | omega, by decide⟩ ?_
      refine J_aload_n (pc := 38) dX0_give_38 rfl ?_
      refine J_getr (pc := 39) dX0_give_39 kc0 fl_X0_11 (by first | exact cvn_r0 (by assumption) | rfl) ?_
      refine J_iconst (pc := 42) (v := 5) dX0_give_42 (by decide) ?_
      refine J_iload_n (pc := 43) dX0_give_43 rfl ?_
      refine J_iadd (pc := 44) dX0_give_44 ?_
      refine J_iconst (pc := 45) (v := 0) dX0_give_45 (by decide) ?_
      refine J_is (pc := 46) dX0_give_46 (by first | exact cvn_e (by assumption) | rfl) (by first | exact nI_add 5 _ | (rw [ix_nI]; exact nI_add 5 _)) ⟨by first | decide | omega, by decide⟩ ?_
      refine J_iconst (pc := 47) (v := 1) dX0_give_47 (by decide) ?_
      exact J_iret (pc := 48) rfl rfl rfl dX0_give_48 (hQ _ _ (by rw [show (doA d m wv f (0, r, 0, 0)) = (upd f (16 + r) 0, true) from if_neg (fun z => z.elim c5 (fun z => by rw [c21] at z; exact absurd z (by decide)))]; exact ⟨rfl, _, S, by rw [sA_AA S e 2, sAA_put]; rfl, RC_give hRC n1 n2 n3 hr⟩))
    · refine J_iconst (pc := 24) (v := 0) dX0_give_24 (by decide) ?_
      exact J_iret (pc := 25) rfl rfl rfl dX0_give_25 (hQ _ _ (by rw [show (doA d m wv f (0, r, 0, 0)) = (f, false) from if_pos (by first | exact Or.inl c5 | exact Or.inr ((hRC.2.2.2.2.2.2.2.2.1 _ ho).resolve_left c21))]; exact ⟨rfl, CU_r hRC⟩))
theorem r_X0_giveBack {g : Gp} {S : Sx} {r : Nat} {c e i a b m : Nat} {d : HD} {wv : Nat → Nat × Nat} {f : Row} (hX : CX S c e i a b d m wv f) (hr : r < dNr d) : RI g mX0_giveBack 1 [.ref c, .int (nI r)] S (fun x X => x = bI (doA d m wv f (1, r, 0, 0)).2 ∧ CU S e d (doA d m wv f (1, r, 0, 0)).1 X) := by
  refine RI_ofQ ⟨rfl, rfl⟩ (Nat.le_of_ble_eq_true rfl) (fun sz Q hQ => ?_)
  obtain ⟨hCL, hHL, hLL, hp2, hp3, hHC, hv, hW, hLC, hRC⟩ := id hX
  have n1 : dNs d ≤ 8 := hv.1
  have n2 : dNr d ≤ 10 := hv.2.1
  have n3 : dNp d ≤ 8 := hv.2.2.1
  refine J_aload_n (pc := 0) dX0_giveBack_0 rfl ?_
  refine J_iload_n (pc := 1) dX0_giveBack_1 rfl ?_
  refine J_cvr (pc := 2) (N := mX0_isKept) dX0_giveBack_2 ml_X0_57 cf_X0_isKept cv_X0_isKept (r_X0_isKept hX hr) rfl rfl (Nat.le_of_ble_eq_true rfl) (by decide) (rv_of (ci := 0) (by first | exact cvn_n (by assumption) | rfl) rfl rfl) ?_
  refine J_ifp_ne (pc := 5) (tgt := 10) dX0_giveBack_5 (by decide) (fun c5 => ?_) (fun c5 => ?_)
  · refine J_aload_n (pc := 10) dX0_giveBack_10 rfl ?_
    refine J_getr (pc := 11) dX0_giveBack_11 kc0 fl_X0_11 (by first | exact cvn_r0 (by assumption) | rfl) ?_
    refine J_iconst (pc := 14) (v := 2) dX0_giveBack_14 (by decide) ?_
    refine J_dup2 (pc := 15) dX0_giveBack_15 rfl rfl ?_
    refine J_il (pc := 16) dX0_giveBack_16 (by first | exact cvn_e (by assumption) | rfl) (rfl : (2 : Int32) = nI 2) ⟨by first | decide | omega, by decide⟩ ?_
    refine J_iconst (pc := 17) (v := 1) dX0_giveBack_17 (by decide) ?_
    refine J_iload_n (pc := 18) dX0_giveBack_18 rfl ?_
    refine J_ishl (pc := 19) dX0_giveBack_19 ?_
    refine J_iconst (pc := 20) (v := -1) dX0_giveBack_20 (by decide) ?_
    refine J_ixor (pc := 21) dX0_giveBack_21 ?_
    refine J_iand (pc := 22) dX0_giveBack_22 ?_
    refine J_is (pc := 23) dX0_giveBack_23 (by first | exact cvn_e (by assumption) | rfl) (rfl : (2 : Int32) = nI 2) ⟨by first | decide | omega, by decide⟩ ?_
    refine J_iconst (pc := 24) (v := 1) dX0_giveBack_24 (by decide) ?_
    exact J_iret (pc := 25) rfl rfl rfl dX0_giveBack_25 (hQ _ _ (by rw [show (doA d m wv f (1, r, 0, 0)) = (upd f (16 + r) (-1), true) from if_pos c5]; exact ⟨rfl, _, S, by rw [sA_AA S e 2]; rfl, RC_back hRC n1 n2 n3 hr⟩))
  · refine J_iconst (pc := 8) (v := 0) dX0_giveBack_8 (by decide) ?_
    exact J_iret (pc := 9) rfl rfl rfl dX0_giveBack_9 (hQ _ _ (by rw [show (doA d m wv f (1, r, 0, 0)) = (f, false) from if_neg c5]; exact ⟨rfl, CU_r hRC⟩))
theorem r_X0_die {g : Gp} {S : Sx} {s : Nat} {c e i a b m : Nat} {d : HD} {wv : Nat → Nat × Nat} {f : Row} (hX : CX S c e i a b d m wv f) (hs' : s < dNs d) : RI g mX0_die 1 [.ref c, .int (nI s)] S (fun x X => x = bI (doA d m wv f (4, s, 0, 0)).2 ∧ CU S e d (doA d m wv f (4, s, 0, 0)).1 X) := by
  refine RI_ofQ ⟨rfl, rfl⟩ (Nat.le_of_ble_eq_true rfl) (fun sz Q hQ => ?_)
  obtain ⟨hCL, hHL, hLL, hp2, hp3, hHC, hv, hW, hLC, hRC⟩ := id hX
  have n1 : dNs d ≤ 8 := hv.1
  have n2 : dNr d ≤ 10 := hv.2.1
  have n3 : dNp d ≤ 8 := hv.2.2.1
  refine J_aload_n (pc := 0) dX0_die_0 rfl ?_
  refine J_iload_n (pc := 1) dX0_die_1 rfl ?_
  refine J_cvr (pc := 2) (N := mX0_isLiving) dX0_die_2 ml_X0_49 cf_X0_isLiving cv_X0_isLiving (r_X0_isLiving hX hs') rfl rfl (Nat.le_of_ble_eq_true rfl) (by decide) (rv_of (ci := 0) (by first | exact cvn_n (by assumption) | rfl) rfl rfl) ?_
  refine J_ifp_ne (pc := 5) (tgt := 10) dX0_die_5 (by decide) (fun c5 => ?_) (fun c5 => ?_)
  · refine J_aload_n (pc := 10) dX0_die_10 rfl ?_
    refine J_getr (pc := 11) dX0_die_11 kc0 fl_X0_11 (by first | exact cvn_r0 (by assumption) | rfl) ?_
    refine J_iconst (pc := 14) (v := 1) dX0_die_14 (by decide) ?_
    refine J_dup2 (pc := 15) dX0_die_15 rfl rfl ?_
    refine J_il (pc := 16) dX0_die_16 (by first | exact cvn_e (by assumption) | rfl) (rfl : (1 : Int32) = nI 1) ⟨by first | decide | omega, by decide⟩ ?_
    refine J_iconst (pc := 17) (v := 1) dX0_die_17 (by decide) ?_
    refine J_iload_n (pc := 18) dX0_die_18 rfl ?_
    refine J_ishl (pc := 19) dX0_die_19 ?_
    refine J_iconst (pc := 20) (v := -1) dX0_die_20 (by decide) ?_
    refine J_ixor (pc := 21) dX0_die_21 ?_
    refine J_iand (pc := 22) dX0_die_22 ?_
    refine J_is (pc := 23) dX0_die_23 (by first | exact cvn_e (by assumption) | rfl) (rfl : (1 : Int32) = nI 1) ⟨by first | decide | omega, by decide⟩ ?_
    refine J_aload_n (pc := 24) dX0_die_24 rfl ?_
    refine J_getr (pc := 25) dX0_die_25 kc0 fl_X0_11 (by first | exact cvn_r0 (by assumption) | rfl) ?_
    refine J_iconst (pc := 28) (v := 2) dX0_die_28 (by decide) ?_
    refine J_dup2 (pc := 29) dX0_die_29 rfl rfl ?_
    refine J_il (pc := 30) dX0_die_30 (by first | exact cvn_e (by assumption) | rfl) (rfl : (2 : Int32) = nI 2) ⟨by first | decide | omega, by decide⟩ ?_
    refine J_aload_n (pc := 31) dX0_die_31 rfl ?_
    refine J_getp (pc := 32) dX0_die_32 kc0 fl_X0_20 (by first | exact cvn_p2 (by assumption) | rfl) ?_
    refine J_tr hp2 ?_
    refine J_getrN (pc := 35) dX0_die_35 kc1 fl_X0_46 (by first | exact hou_r1 (by assumption) | rfl) ?_
    refine J_iload_n (pc := 38) dX0_die_38 rfl ?_
    refine J_il (pc := 39) dX0_die_39 (by first | exact hou_a1 (by assumption) | rfl) (by first | with_reducible rfl | assumption | exact ix_nI _ | rfl) ⟨by first | decide | omega, by decide⟩ ?_
    refine J_t1 (show _ = msk (fun r => decide (dOw d r = s)) (dNr d) from (congrFun (sA_o (show a + 2 ≠ e by rcases hCL with ⟨rfl, rfl, rfl⟩ | ⟨rfl, rfl, rfl⟩ <;> rcases hHL with rfl | rfl <;> omega)) s).trans (hHC.2.2.2.1 _ hs').2.1) ?_
    refine J_iconst (pc := 40) (v := -1) dX0_die_40 (by decide) ?_
    refine J_ixor (pc := 41) dX0_die_41 ?_
    refine J_iand (pc := 42) dX0_die_42 ?_
    refine J_is (pc := 43) dX0_die_43 (by first | exact cvn_e (by assumption) | rfl) (rfl : (2 : Int32) = nI 2) ⟨by first | decide | omega, by decide⟩ ?_
    refine J_iconst (pc := 44) (v := 1) dX0_die_44 (by decide) ?_
    exact J_iret (pc := 45) rfl rfl rfl dX0_die_45 (hQ _ _ (by rw [show (doA d m wv f (4, s, 0, 0)) = (rDie d s f, true) from if_neg (fun z => by rw [c5] at z; exact absurd z (by decide))]; exact ⟨rfl, _, S, by rw [sA_AA S e 1, sAA_put, sAA_s, pk_un (show (2 : Nat) ≠ 1 by decide)]; rfl, RC_die hRC n1 n2 n3 hs'⟩))
  · refine J_iconst (pc := 8) (v := 0) dX0_die_8 (by decide) ?_
    exact J_iret (pc := 9) rfl rfl rfl dX0_die_9 (hQ _ _ (by rw [show (doA d m wv f (4, s, 0, 0)) = (f, false) from if_pos ((hRC.2.2.2.2.2.2.2.2.1 _ hs').resolve_left c5)]; exact ⟨rfl, CU_r hRC⟩))
theorem r_X0_cure {g : Gp} {S : Sx} {r p : Nat} {c e i a b m : Nat} {d : HD} {wv : Nat → Nat × Nat} {f : Row} (hX : CX S c e i a b d m wv f) (hr : r < dNr d) (hp : p < dNp d) : ∀ T, RI g mX0_cure 5 [.ref c, .int (nI r), .int (nI p)] (w1 S T) (fun x X => x = bI (doA d m wv f (3, r, p, 0)).2 ∧ CU S e d (doA d m wv f (3, r, p, 0)).1 X) := by
  intro T
  refine RI_ofQ ⟨rfl, rfl⟩ (Nat.le_of_ble_eq_true rfl) (fun sz Q hQ => ?_)
  obtain ⟨hCL, hHL, hLL, hp2, hp3, hHC, hv, hW, hLC, hRC⟩ := id hX
  have n1 : dNs d ≤ 8 := hv.1
  have n2 : dNr d ≤ 10 := hv.2.1
  have n3 : dNp d ≤ 8 := hv.2.2.1
  refine J_aload_n (pc := 0) dX0_cure_0 rfl ?_
  refine J_iload_n (pc := 1) dX0_cure_1 rfl ?_
  refine J_cvr (pc := 2) (N := mX0_isCured) dX0_cure_2 ml_X0_105 cf_X0_isCured cv_X0_isCured (r_X0_isCured (S := w1 S T) hX hp) rfl rfl (Nat.le_of_ble_eq_true rfl) (by decide) (rv_of (ci := 0) (by first | exact cvn_n (by assumption) | rfl) rfl rfl) ?_
  refine J_ifp_ne (pc := 5) (tgt := 26) dX0_cure_5 (by decide) (fun c5 => ?_) (fun c5 => ?_)
  · refine J_iconst (pc := 26) (v := 0) dX0_cure_26 (by decide) ?_
    exact J_iret (pc := 27) rfl rfl rfl dX0_cure_27 (hQ _ _ (by rw [show (doA d m wv f (3, r, p, 0)) = (f, false) from if_neg (fun z => by first | exact c5 z.1 | exact absurd (c13.symm.trans z.2.1) (by decide) | exact c23 (cc_i.mpr z.2.2))]; exact ⟨rfl, CU_w hRC⟩))
  · refine J_aload_n (pc := 8) dX0_cure_8 rfl ?_
    refine J_iload_n (pc := 9) dX0_cure_9 rfl ?_
    refine J_cvr (pc := 10) (N := mX0_isUsed) dX0_cure_10 ml_X0_108 cf_X0_isUsed cv_X0_isUsed (r_X0_isUsed (S := w1 S T) hX hr) rfl rfl (Nat.le_of_ble_eq_true rfl) (by decide) (rv_of (ci := 0) (by first | exact cvn_n (by assumption) | rfl) rfl rfl) ?_
    refine J_ifp_ne (pc := 13) (tgt := 26) dX0_cure_13 (by decide) (fun c13 => ?_) (fun c13 => ?_)
    · refine J_iconst (pc := 26) (v := 0) dX0_cure_26 (by decide) ?_
      exact J_iret (pc := 27) rfl rfl rfl dX0_cure_27 (hQ _ _ (by rw [show (doA d m wv f (3, r, p, 0)) = (f, false) from if_neg (fun z => by first | exact c5 z.1 | exact absurd (c13.symm.trans z.2.1) (by decide) | exact c23 (cc_i.mpr z.2.2))]; exact ⟨rfl, CU_w hRC⟩))
    · refine J_aload_n (pc := 16) dX0_cure_16 rfl ?_
      refine J_iload_n (pc := 17) dX0_cure_17 rfl ?_
      refine J_iload_n (pc := 18) dX0_cure_18 rfl ?_
      refine J_iconst (pc := 19) (v := 0) dX0_cure_19 (by decide) ?_
      refine J_cvw (pc := 20) (N := mX0_canIn) dX0_cure_20 ml_X0_101 cf_X0_canIn cv_X0_canIn (r_X0_canIn hX hr hp) rfl rfl (Nat.le_of_ble_eq_true rfl) (by decide) (rv_of (ci := 0) (by first | exact cvn_n (by assumption) | rfl) rfl rfl) ?_
      intro T
      refine J_ifp_ne (pc := 23) (tgt := 28) dX0_cure_23 (by decide) (fun c23 => ?_) (fun c23 => ?_)
      · refine J_aload_n (pc := 28) dX0_cure_28 rfl ?_
        refine J_getr (pc := 29) dX0_cure_29 kc0 fl_X0_11 (by first | exact cvn_r0 (by assumption) | rfl) ?_
        refine J_iconst (pc := 32) (v := 3) dX0_cure_32 (by decide) ?_
        refine J_dup2 (pc := 33) dX0_cure_33 rfl rfl ?_
        refine J_il (pc := 34) dX0_cure_34 (by first | exact cvn_e (by assumption) | rfl) (rfl : (3 : Int32) = nI 3) ⟨by first | decide | omega, by decide⟩ ?_
        refine J_iconst (pc := 35) (v := 1) dX0_cure_35 (by decide) ?_
        refine J_iload_n (pc := 36) dX0_cure_36 rfl ?_
        refine J_ishl (pc := 37) dX0_cure_37 ?_
        refine J_ior (pc := 38) dX0_cure_38 ?_
        refine J_isw (pc := 39) dX0_cure_39 (by first | exact cvn_e (by assumption) | rfl) (rfl : (3 : Int32) = nI 3) ⟨by first | decide | omega, by decide⟩ ?_
        refine J_aload_n (pc := 40) dX0_cure_40 rfl ?_
        refine J_getr (pc := 41) dX0_cure_41 kc0 fl_X0_11 (by first | exact cvn_r0 (by assumption) | rfl) ?_
        refine J_iconst (pc := 44) (v := 4) dX0_cure_44 (by decide) ?_
        refine J_dup2 (pc := 45) dX0_cure_45 rfl rfl ?_
        refine J_il (pc := 46) dX0_cure_46 (by first | exact cvn_e (by assumption) | rfl) (rfl : (4 : Int32) = nI 4) ⟨by first | decide | omega, by decide⟩ ?_
        refine J_iconst (pc := 47) (v := 1) dX0_cure_47 (by decide) ?_
        refine J_iload_n (pc := 48) dX0_cure_48 rfl ?_
        refine J_ishl (pc := 49) dX0_cure_49 ?_
        refine J_ior (pc := 50) dX0_cure_50 ?_
        refine J_isw (pc := 51) dX0_cure_51 (by first | exact cvn_e (by assumption) | rfl) (rfl : (4 : Int32) = nI 4) ⟨by first | decide | omega, by decide⟩ ?_
        refine J_aload_n (pc := 52) dX0_cure_52 rfl ?_
        refine J_getr (pc := 53) dX0_cure_53 kc0 fl_X0_11 (by first | exact cvn_r0 (by assumption) | rfl) ?_
        refine J_bipush (pc := 56) (v := 23) dX0_cure_56 (by decide) ?_
        refine J_iload_n (pc := 58) dX0_cure_58 rfl ?_
        refine J_iadd (pc := 59) dX0_cure_59 ?_
        refine J_iload_n (pc := 60) dX0_cure_60 rfl ?_
        refine J_isw (pc := 61) dX0_cure_61 (by first | exact cvn_e (by assumption) | rfl) (by first | exact nI_add 23 _ | (rw [ix_nI]; exact nI_add 23 _)) ⟨by first | decide | omega, by decide⟩ ?_
        refine J_iconst (pc := 62) (v := 1) dX0_cure_62 (by decide) ?_
        exact J_iret (pc := 63) rfl rfl rfl dX0_cure_63 (hQ _ _ (by rw [show (doA d m wv f (3, r, p, 0)) = (rCur r p f, true) from if_pos ⟨Decidable.not_not.mp c5, (hRC.2.2.2.2.2.2.2.2.2 _ hr).resolve_right c13, cc_i.mp c23⟩]; exact ⟨rfl, _, T, by rw [sA_AA S e 3, sAA_put, sAA_put, w1_sAAs, pk_un (show (4 : Nat) ≠ 3 by decide)]; rfl, RC_cur hRC n1 n2 n3 hr hp⟩))
      · refine J_iconst (pc := 26) (v := 0) dX0_cure_26 (by decide) ?_
        exact J_iret (pc := 27) rfl rfl rfl dX0_cure_27 (hQ _ _ (by rw [show (doA d m wv f (3, r, p, 0)) = (f, false) from if_neg (fun z => by first | exact c5 z.1 | exact absurd (c13.symm.trans z.2.1) (by decide) | exact c23 (cc_i.mpr z.2.2))]; exact ⟨rfl, CU_w hRC⟩))
theorem r_X0_lapse {g : Gp} {S : Sx} {s B : Nat} {c e i a b m : Nat} {d : HD} {wv : Nat → Nat × Nat} {f : Row} (hX : CX S c e i a b d m wv f) (hs' : s < dNs d) (hDB : DB B d f) (hB : B < 2 ^ 30) : RI g mX0_lapse 1 [.ref c, .int (nI s)] S (fun x X => x = bI (doA d m wv f (2, s, 0, 0)).2 ∧ CU S e d (doA d m wv f (2, s, 0, 0)).1 X) := by
  refine RI_ofQ ⟨rfl, rfl⟩ (Nat.le_of_ble_eq_true rfl) (fun sz Q hQ => ?_)
  obtain ⟨hCL, hHL, hLL, hp2, hp3, hHC, hv, hW, hLC, hRC⟩ := id hX
  have n1 : dNs d ≤ 8 := hv.1
  have n2 : dNr d ≤ 10 := hv.2.1
  have n3 : dNp d ≤ 8 := hv.2.2.1
  refine J_aload_n (pc := 0) dX0_lapse_0 rfl ?_
  refine J_iload_n (pc := 1) dX0_lapse_1 rfl ?_
  refine J_cvr (pc := 2) (N := mX0_isLiving) dX0_lapse_2 ml_X0_49 cf_X0_isLiving cv_X0_isLiving (r_X0_isLiving hX hs') rfl rfl (Nat.le_of_ble_eq_true rfl) (by decide) (rv_of (ci := 0) (by first | exact cvn_n (by assumption) | rfl) rfl rfl) ?_
  refine J_ifp_eq (pc := 5) (tgt := 16) dX0_lapse_5 (by decide) (fun c5 => ?_) (fun c5 => ?_)
  · refine J_iconst (pc := 16) (v := 0) dX0_lapse_16 (by decide) ?_
    exact J_iret (pc := 17) rfl rfl rfl dX0_lapse_17 (hQ _ _ (by rw [show (doA d m wv f (2, s, 0, 0)) = (f, false) from if_neg (fun z => by first | exact c5 z.1 | exact z.2 c13)]; exact ⟨rfl, CU_r hRC⟩))
  · refine J_aload_n (pc := 8) dX0_lapse_8 rfl ?_
    refine J_iload_n (pc := 9) dX0_lapse_9 rfl ?_
    refine J_cvr (pc := 10) (N := mX0_keptOf) dX0_lapse_10 ml_X0_53 cf_X0_keptOf cv_X0_keptOf (r_X0_keptOf hX hs') rfl rfl (Nat.le_of_ble_eq_true rfl) (by decide) (rv_of (ci := 0) (by first | exact cvn_n (by assumption) | rfl) rfl rfl) ?_
    refine J_if_ne (pc := 13) (tgt := 18) dX0_lapse_13 (by decide) (fun c13 => ?_) (fun c13 => ?_)
    · refine J_aload_n (pc := 18) dX0_lapse_18 rfl ?_
      refine J_getr (pc := 19) dX0_lapse_19 kc0 fl_X0_11 (by first | exact cvn_r0 (by assumption) | rfl) ?_
      refine J_bipush (pc := 22) (v := 15) dX0_lapse_22 (by decide) ?_
      refine J_iload_n (pc := 24) dX0_lapse_24 rfl ?_
      refine J_iadd (pc := 25) dX0_lapse_25 ?_
      refine J_dup2 (pc := 26) dX0_lapse_26 rfl rfl ?_
      refine J_il (pc := 27) dX0_lapse_27 (by first | exact cvn_e (by assumption) | rfl) (by first | exact nI_add 15 _ | (rw [ix_nI]; exact nI_add 15 _)) ⟨by first | decide | omega, by decide⟩ ?_
      refine J_t1 (hRC.2.2.2.2.2.2.1 _ hs') ?_
      refine J_iconst (pc := 28) (v := 1) dX0_lapse_28 (by decide) ?_
      refine J_iadd (pc := 29) dX0_lapse_29 ?_
      refine J_is (pc := 30) dX0_lapse_30 (by first | exact cvn_e (by assumption) | rfl) (by first | exact nI_add 15 _ | (rw [ix_nI]; exact nI_add 15 _)) ⟨by first | decide | omega, by decide⟩ ?_
      refine J_iconst (pc := 31) (v := 0) dX0_lapse_31 (by decide) ?_
      refine J_istore_n (pc := 32) dX0_lapse_32 (by decide) rfl ?_
      have hd : (doA d m wv f (2, s, 0, 0)) = (rLap d s f, true) := if_pos ⟨c5, c13⟩
      rw [hd] at hQ
      refine J_cg2 (sA_AA S e (15 + s) _) ?_
      refine dn_ind (n := dNr d) (P := fun i => ∀ c', RC d c' (upd (lapF d s i f) (8 + s) (f (8 + s) + 1)) → J g mX0_lapse 1 [] 33 [some (.ref c), some (.int (nI s)), some (.int (ix i))] [] (hs (sAA S e c')) sz 0 0 Q) ?_ (fun i hi ih => ?_) 0 (Nat.zero_le _) _ (by rw [lapF_0]; exact RC_lv hRC n1 n2 n3 hs')
      · intro c' hc'
        refine J_iload_n (pc := 33) dX0_lapse_33 rfl ?_
        refine J_aload_n (pc := 34) dX0_lapse_34 rfl ?_
        refine J_getp (pc := 35) dX0_lapse_35 kc0 fl_X0_20 (by first | exact cvn_p2 (by assumption) | rfl) ?_
        refine J_tr hp2 ?_
        refine J_getiN (pc := 38) dX0_lapse_38 kc1 fl_X0_89 (by first | exact hou_i9 (by assumption) | rfl) ?_
        refine J_icmp_ge (pc := 41) (tgt := 89) dX0_lapse_41 (by decide) (fun c41 => ?_) (fun c41 => absurd (ix_ge hHC.2.1) c41)
        refine J_iconst (pc := 89) (v := 1) dX0_lapse_89 (by decide) ?_
        exact J_iret (pc := 90) rfl rfl rfl dX0_lapse_90 (hQ _ _ ⟨rfl, c', S, rfl, hc'⟩)
      · intro c' hc'
        obtain ⟨_, _, _, _, _, hHC, _, _, _, hRC⟩ := id (CX_AA hX hc')
        have fi : (upd (lapF d s i f) (8 + s) (f (8 + s) + 1)) (16 + i) = f (16 + i) := by rw [pk_un (by omega), lapF_at]
        refine J_iload_n (pc := 33) dX0_lapse_33 rfl ?_
        refine J_aload_n (pc := 34) dX0_lapse_34 rfl ?_
        refine J_getp (pc := 35) dX0_lapse_35 kc0 fl_X0_20 (by first | exact cvn_p2 (by assumption) | rfl) ?_
        refine J_tr hp2 ?_
        refine J_getiN (pc := 38) dX0_lapse_38 kc1 fl_X0_89 (by first | exact hou_i9 (by assumption) | rfl) ?_
        refine J_icmp_ge (pc := 41) (tgt := 89) dX0_lapse_41 (by decide) (fun c41 => absurd c41 (ix_lt hHC.2.1 hi (by omega))) (fun c41 => ?_)
        refine J_aload_n (pc := 44) dX0_lapse_44 rfl ?_
        refine J_iload_n (pc := 45) dX0_lapse_45 rfl ?_
        refine J_t1 (ix_nI i) ?_
        refine J_cvr (pc := 46) (N := mX0_isKept) dX0_lapse_46 ml_X0_57 cf_X0_isKept cv_X0_isKept (r_X0_isKept (CX_AA hX hc') hi) rfl rfl (Nat.le_of_ble_eq_true rfl) (by decide) (rv_of (ci := 0) (by first | exact cvn_n (by assumption) | rfl) rfl rfl) ?_
        refine J_ifp_eq (pc := 49) (tgt := 83) dX0_lapse_49 (by decide) (fun c49 => ?_) (fun c49 => ?_)
        · rw [fi] at c49
          rw [lapF_n (fun z => c49 z.2)] at ih
          refine J_iinc (pc := 83) (v := 1) dX0_lapse_83 rfl (by decide) rfl ?_
          refine J_goto (pc := 86) (tgt := 33) dX0_lapse_86 (by decide) ?_
          first
            | exact ih c' hc'
            | (refine J_cg2 (sAA_put S e _ c' _) ?_
               refine ih _ ?_
               rw [← upd_cm (show 8 + s ≠ 16 + i by omega)]
               exact RC_dv hc' n1 n2 n3 hi (by rw [fi]; exact c49) (by rw [eq, show (2 : Int32) = nI 2 from rfl, pk_div (by omega) (by omega) (by omega)]; exact nI_nm (by omega)))
        · rw [fi] at c49
          obtain ⟨q, hq, eq⟩ := (hDB i hi).resolve_left c49
          refine J_aload_n (pc := 52) dX0_lapse_52 rfl ?_
          refine J_getp (pc := 53) dX0_lapse_53 kc0 fl_X0_20 (by first | exact cvn_p2 (by assumption) | rfl) ?_
          refine J_tr hp2 ?_
          refine J_getrN (pc := 56) dX0_lapse_56 kc1 fl_X0_60 (by first | exact hou_r3 (by assumption) | rfl) ?_
          refine J_iload_n (pc := 59) dX0_lapse_59 rfl ?_
          refine J_il (pc := 60) dX0_lapse_60 (by first | exact hou_a3 (by assumption) | rfl) (by first | with_reducible rfl | assumption | exact ix_nI _ | rfl) ⟨by first | decide | omega, by decide⟩ ?_
          refine J_t1 ((hHC.2.2.2.2.1 _ hi).1) ?_
          refine J_iload_n (pc := 61) dX0_lapse_61 rfl ?_
          refine J_icmp_ne (pc := 62) (tgt := 83) dX0_lapse_62 (by decide) (fun c62 => ?_) (fun c62 => ?_)
          · rw [lapF_n (fun z => c62 (by rw [z.1]))] at ih
            refine J_iinc (pc := 83) (v := 1) dX0_lapse_83 rfl (by decide) rfl ?_
            refine J_goto (pc := 86) (tgt := 33) dX0_lapse_86 (by decide) ?_
            first
              | exact ih c' hc'
              | (refine J_cg2 (sAA_put S e _ c' _) ?_
                 refine ih _ ?_
                 rw [← upd_cm (show 8 + s ≠ 16 + i by omega)]
                 exact RC_dv hc' n1 n2 n3 hi (by rw [fi]; exact c49) (by rw [eq, show (2 : Int32) = nI 2 from rfl, pk_div (by omega) (by omega) (by omega)]; exact nI_nm (by omega)))
          · have os : dOw d i = s := (nI_eq (by have : dOw d i < dNs d := (hv.2.2.2.2.2.1 i hi).1; omega) (by omega)).mp c62
            rw [lapF_y ⟨os, c49⟩] at ih
            refine J_aload_n (pc := 65) dX0_lapse_65 rfl ?_
            refine J_getr (pc := 66) dX0_lapse_66 kc0 fl_X0_11 (by first | exact cvn_r0 (by assumption) | rfl) ?_
            refine J_iconst (pc := 69) (v := 5) dX0_lapse_69 (by decide) ?_
            refine J_iload_n (pc := 70) dX0_lapse_70 rfl ?_
            refine J_iadd (pc := 71) dX0_lapse_71 ?_
            refine J_aload_n (pc := 72) dX0_lapse_72 rfl ?_
            refine J_getr (pc := 73) dX0_lapse_73 kc0 fl_X0_11 (by first | exact cvn_r0 (by assumption) | rfl) ?_
            refine J_iconst (pc := 76) (v := 5) dX0_lapse_76 (by decide) ?_
            refine J_iload_n (pc := 77) dX0_lapse_77 rfl ?_
            refine J_iadd (pc := 78) dX0_lapse_78 ?_
            refine J_il (pc := 79) dX0_lapse_79 (by first | exact cvn_e (by assumption) | rfl) (by rw [ix_nI]; exact nI_add 5 _) ⟨by first | decide | omega, by decide⟩ ?_
            refine J_t1 (y := f (16 + i)) ((congrFun (sAA_s S e c') _).trans ((hc'.2.2.2.2.2.1 i hi (by rw [fi]; exact c49)).trans fi)) ?_
            refine J_iconst (pc := 80) (v := 2) dX0_lapse_80 (by decide) ?_
            refine J_idiv (pc := 81) dX0_lapse_81 (by decide) ?_
            refine J_is (pc := 82) dX0_lapse_82 (by first | exact cvn_e (by assumption) | rfl) (by rw [ix_nI]; exact nI_add 5 _) ⟨by first | decide | omega, by decide⟩ ?_
            refine J_iinc (pc := 83) (v := 1) dX0_lapse_83 rfl (by decide) rfl ?_
            refine J_goto (pc := 86) (tgt := 33) dX0_lapse_86 (by decide) ?_
            first
              | exact ih c' hc'
              | (refine J_cg2 (sAA_put S e _ c' _) ?_
                 refine ih _ ?_
                 rw [← upd_cm (show 8 + s ≠ 16 + i by omega)]
                 exact RC_dv hc' n1 n2 n3 hi (by rw [fi]; exact c49) (by rw [eq, show (2 : Int32) = nI 2 from rfl, pk_div (by omega) (by omega) (by omega)]; exact nI_nm (by omega)))
    · refine J_iconst (pc := 16) (v := 0) dX0_lapse_16 (by decide) ?_
      exact J_iret (pc := 17) rfl rfl rfl dX0_lapse_17 (hQ _ _ (by rw [show (doA d m wv f (2, s, 0, 0)) = (f, false) from if_neg (fun z => by first | exact c5 z.1 | exact z.2 c13)]; exact ⟨rfl, CU_r hRC⟩))
theorem r_X0_passDay {g : Gp} {S : Sx} {B : Nat} {c e i a b m : Nat} {d : HD} {wv : Nat → Nat × Nat} {f : Row} (hX : CX S c e i a b d m wv f) (hDB : DB B d f) (hB : B < 2 ^ 30) : RI g mX0_passDay 1 [.ref c] S (fun x X => x = 1 ∧ CU S e d (rDay (dNr d) f) X) := by
  refine RI_ofQ ⟨rfl, rfl⟩ (Nat.le_of_ble_eq_true rfl) (fun sz Q hQ => ?_)
  obtain ⟨hCL, hHL, hLL, hp2, hp3, hHC, hv, hW, hLC, hRC⟩ := id hX
  have n1 : dNs d ≤ 8 := hv.1
  have n2 : dNr d ≤ 10 := hv.2.1
  have n3 : dNp d ≤ 8 := hv.2.2.1
  refine J_iconst (pc := 0) (v := 0) dX0_passDay_0 (by decide) ?_
  refine J_istore_n (pc := 1) dX0_passDay_1 (by decide) rfl ?_
  refine J_cg2 (sAA_self S e).symm ?_
  refine dn_ind (n := dNr d) (P := fun i => ∀ c', RC d c' (dyF i f) → J g mX0_passDay 1 [] 2 [some (.ref c), some (.int (ix i))] [] (hs (sAA S e c')) sz 0 0 Q) ?_ (fun i hi ih => ?_) 0 (Nat.zero_le _) _ (by rw [dyF_0]; exact hRC)
  · intro c' hc'
    refine J_iload_n (pc := 2) dX0_passDay_2 rfl ?_
    refine J_aload_n (pc := 3) dX0_passDay_3 rfl ?_
    refine J_getp (pc := 4) dX0_passDay_4 kc0 fl_X0_20 (by first | exact cvn_p2 (by assumption) | rfl) ?_
    refine J_tr hp2 ?_
    refine J_getiN (pc := 7) dX0_passDay_7 kc1 fl_X0_89 (by first | exact hou_i9 (by assumption) | rfl) ?_
    refine J_icmp_ge (pc := 10) (tgt := 39) dX0_passDay_10 (by decide) (fun c10 => ?_) (fun c10 => absurd (ix_ge hHC.2.1) c10)
    refine J_aload_n (pc := 39) dX0_passDay_39 rfl ?_
    refine J_getr (pc := 40) dX0_passDay_40 kc0 fl_X0_11 (by first | exact cvn_r0 (by assumption) | rfl) ?_
    refine J_iconst (pc := 43) (v := 4) dX0_passDay_43 (by decide) ?_
    refine J_iconst (pc := 44) (v := 0) dX0_passDay_44 (by decide) ?_
    refine J_is (pc := 45) dX0_passDay_45 (by first | exact cvn_e (by assumption) | rfl) (rfl : (4 : Int32) = nI 4) ⟨by first | decide | omega, by decide⟩ ?_
    refine J_aload_n (pc := 46) dX0_passDay_46 rfl ?_
    refine J_getr (pc := 47) dX0_passDay_47 kc0 fl_X0_11 (by first | exact cvn_r0 (by assumption) | rfl) ?_
    refine J_iconst (pc := 50) (v := 0) dX0_passDay_50 (by decide) ?_
    refine J_dup2 (pc := 51) dX0_passDay_51 rfl rfl ?_
    refine J_il (pc := 52) dX0_passDay_52 (by first | exact cvn_e (by assumption) | rfl) (rfl : (0 : Int32) = nI 0) ⟨by first | decide | omega, by decide⟩ ?_
    refine J_iconst (pc := 53) (v := 1) dX0_passDay_53 (by decide) ?_
    refine J_iadd (pc := 54) dX0_passDay_54 ?_
    refine J_is (pc := 55) dX0_passDay_55 (by first | exact cvn_e (by assumption) | rfl) (rfl : (0 : Int32) = nI 0) ⟨by first | decide | omega, by decide⟩ ?_
    refine J_iconst (pc := 56) (v := 1) dX0_passDay_56 (by decide) ?_
    exact J_iret (pc := 57) rfl rfl rfl dX0_passDay_57 (hQ _ _ ⟨rfl, _, S, by rw [sAA_put, sAA_put, sAA_s, pk_un (show (0 : Nat) ≠ 4 by decide)]; rfl, RC_dy hc' n1 n2 n3⟩)
  · intro c' hc'
    obtain ⟨_, _, _, _, _, hHC, _, _, _, hRC⟩ := id (CX_AA hX hc')
    refine J_iload_n (pc := 2) dX0_passDay_2 rfl ?_
    refine J_aload_n (pc := 3) dX0_passDay_3 rfl ?_
    refine J_getp (pc := 4) dX0_passDay_4 kc0 fl_X0_20 (by first | exact cvn_p2 (by assumption) | rfl) ?_
    refine J_tr hp2 ?_
    refine J_getiN (pc := 7) dX0_passDay_7 kc1 fl_X0_89 (by first | exact hou_i9 (by assumption) | rfl) ?_
    refine J_icmp_ge (pc := 10) (tgt := 39) dX0_passDay_10 (by decide) (fun c10 => absurd c10 (ix_lt hHC.2.1 hi (by omega))) (fun c10 => ?_)
    refine J_aload_n (pc := 13) dX0_passDay_13 rfl ?_
    refine J_iload_n (pc := 14) dX0_passDay_14 rfl ?_
    refine J_t1 (ix_nI i) ?_
    refine J_cvr (pc := 15) (N := mX0_isKept) dX0_passDay_15 ml_X0_57 cf_X0_isKept cv_X0_isKept (r_X0_isKept (CX_AA hX hc') hi) rfl rfl (Nat.le_of_ble_eq_true rfl) (by decide) (rv_of (ci := 0) (by first | exact cvn_n (by assumption) | rfl) rfl rfl) ?_
    refine J_ifp_eq (pc := 18) (tgt := 33) dX0_passDay_18 (by decide) (fun c18 => ?_) (fun c18 => ?_)
    · rw [dyF_at] at c18
      rw [dyF_n c18] at ih
      refine J_iinc (pc := 33) (v := 1) dX0_passDay_33 rfl (by decide) rfl ?_
      refine J_goto (pc := 36) (tgt := 2) dX0_passDay_36 (by decide) ?_
      first
        | exact ih c' hc'
        | (refine J_cg2 (sAA_put S e _ c' _) ?_
           refine ih _ ?_
           exact RC_dv hc' n1 n2 n3 hi (by rw [dyF_at]; exact c18) (by rw [eq, nI_1]; exact nI_nm (by omega)))
    · rw [dyF_at] at c18
      obtain ⟨q, hq, eq⟩ := (hDB i hi).resolve_left c18
      rw [dyF_s, if_pos c18] at ih
      refine J_aload_n (pc := 21) dX0_passDay_21 rfl ?_
      refine J_getr (pc := 22) dX0_passDay_22 kc0 fl_X0_11 (by first | exact cvn_r0 (by assumption) | rfl) ?_
      refine J_iconst (pc := 25) (v := 5) dX0_passDay_25 (by decide) ?_
      refine J_iload_n (pc := 26) dX0_passDay_26 rfl ?_
      refine J_iadd (pc := 27) dX0_passDay_27 ?_
      refine J_dup2 (pc := 28) dX0_passDay_28 rfl rfl ?_
      refine J_il (pc := 29) dX0_passDay_29 (by first | exact cvn_e (by assumption) | rfl) (by rw [ix_nI]; exact nI_add 5 _) ⟨by first | decide | omega, by decide⟩ ?_
      refine J_t1 (y := f (16 + i)) ((congrFun (sAA_s S e c') _).trans ((hc'.2.2.2.2.2.1 i hi (by rw [dyF_at]; exact c18)).trans dyF_at)) ?_
      refine J_iconst (pc := 30) (v := 1) dX0_passDay_30 (by decide) ?_
      refine J_iadd (pc := 31) dX0_passDay_31 ?_
      refine J_is (pc := 32) dX0_passDay_32 (by first | exact cvn_e (by assumption) | rfl) (by rw [ix_nI]; exact nI_add 5 _) ⟨by first | decide | omega, by decide⟩ ?_
      refine J_iinc (pc := 33) (v := 1) dX0_passDay_33 rfl (by decide) rfl ?_
      refine J_goto (pc := 36) (tgt := 2) dX0_passDay_36 (by decide) ?_
      first
        | exact ih c' hc'
        | (refine J_cg2 (sAA_put S e _ c' _) ?_
           refine ih _ ?_
           exact RC_dv hc' n1 n2 n3 hi (by rw [dyF_at]; exact c18) (by rw [eq, nI_1]; exact nI_nm (by omega)))
theorem r_X4_isDone {g : Gp} {S : Sx} {q : Q4} {B : Nat} {y z : Int32} {c e i a b m : Nat} {d : HD} {wv : Nat → Nat × Nat} {f : Row} (hX : CX S c e i a b d m wv f) (hDB : DB B d f) (hB : B < 2 ^ 30) (hq : okq d q) (h6 : q.1 ≠ 6) (hy : q.1 ≠ 5 → y = nI q.2.1) (hz : q.1 = 3 → z = nI q.2.2.1) (h44 : 0 ≤ f 44) : ∀ T, RI g mX4_isDone 6 [.ref c, .int (nI q.1), .int y, .int z] (w1 S T) (fun x X => x = bI (doA d m wv f q).2 ∧ CU S e d (doA d m wv f q).1 X) := by
  intro T
  obtain ⟨k, u, v, w⟩ := q
  obtain ⟨q1, q2, q3, q4, -⟩ := hq
  dsimp only at *
  refine RI_ofQ ⟨rfl, rfl⟩ (Nat.le_of_ble_eq_true rfl) (fun sz Q hQ => ?_)
  obtain ⟨hCL, hHL, hLL, hp2, hp3, hHC, hv, hW, hLC, hRC⟩ := id hX
  have n1 : dNs d ≤ 8 := hv.1
  have n2 : dNr d ≤ 10 := hv.2.1
  have n3 : dNp d ≤ 8 := hv.2.2.1
  obtain rfl | rfl | rfl | rfl | rfl | rfl : k = 0 ∨ k = 1 ∨ k = 2 ∨ k = 3 ∨ k = 4 ∨ k = 5 := by omega
  · have ey := hy (by decide)
    subst ey
    refine J_iload_n (pc := 0) dX4_isDone_0 rfl ?_
    refine J_tableIn (pc := 1) (off := 35) (tgt := 36) dX4_isDone_1 (by decide) (by decide) (by decide) (by decide) ?_
    refine J_aload_n (pc := 36) dX4_isDone_36 rfl ?_
    refine J_iload_n (pc := 37) dX4_isDone_37 rfl ?_
    refine J_cnI (pc := 38) (N := mX0_give) dX4_isDone_38 ml_X4_103 cf_X0_give cv_X0_give (r_X0_give (S := w1 S T) hX (q2 (Or.inl rfl))) rfl rfl (Nat.le_of_ble_eq_true rfl) (by decide) (rv_of (ci := 0) (by first | exact cvn_n (by assumption) | rfl) rfl rfl) ?_
    intro x38 X38 hX38
    exact J_iret (pc := 41) rfl rfl (by rw [hX38.1]; exact bI_01 _) dX4_isDone_41 (hQ _ _ hX38)
  · have ey := hy (by decide)
    subst ey
    refine J_iload_n (pc := 0) dX4_isDone_0 rfl ?_
    refine J_tableIn (pc := 1) (off := 41) (tgt := 42) dX4_isDone_1 (by decide) (by decide) (by decide) (by decide) ?_
    refine J_aload_n (pc := 42) dX4_isDone_42 rfl ?_
    refine J_iload_n (pc := 43) dX4_isDone_43 rfl ?_
    refine J_cnI (pc := 44) (N := mX0_giveBack) dX4_isDone_44 ml_X4_109 cf_X0_giveBack cv_X0_giveBack (r_X0_giveBack (S := w1 S T) hX (q2 (Or.inr (Or.inl rfl)))) rfl rfl (Nat.le_of_ble_eq_true rfl) (by decide) (rv_of (ci := 0) (by first | exact cvn_n (by assumption) | rfl) rfl rfl) ?_
    intro x44 X44 hX44
    exact J_iret (pc := 47) rfl rfl (by rw [hX44.1]; exact bI_01 _) dX4_isDone_47 (hQ _ _ hX44)
  · have ey := hy (by decide)
    subst ey
    refine J_iload_n (pc := 0) dX4_isDone_0 rfl ?_
    refine J_tableIn (pc := 1) (off := 47) (tgt := 48) dX4_isDone_1 (by decide) (by decide) (by decide) (by decide) ?_
    refine J_aload_n (pc := 48) dX4_isDone_48 rfl ?_
    refine J_iload_n (pc := 49) dX4_isDone_49 rfl ?_
    refine J_cnI (pc := 50) (N := mX0_lapse) dX4_isDone_50 ml_X4_112 cf_X0_lapse cv_X0_lapse (r_X0_lapse (S := w1 S T) hX (q3 (Or.inl rfl)) hDB hB) rfl rfl (Nat.le_of_ble_eq_true rfl) (by decide) (rv_of (ci := 0) (by first | exact cvn_n (by assumption) | rfl) rfl rfl) ?_
    intro x50 X50 hX50
    exact J_iret (pc := 53) rfl rfl (by rw [hX50.1]; exact bI_01 _) dX4_isDone_53 (hQ _ _ hX50)
  · have ey := hy (by decide)
    subst ey
    have ez := hz rfl
    subst ez
    refine J_iload_n (pc := 0) dX4_isDone_0 rfl ?_
    refine J_tableIn (pc := 1) (off := 53) (tgt := 54) dX4_isDone_1 (by decide) (by decide) (by decide) (by decide) ?_
    refine J_aload_n (pc := 54) dX4_isDone_54 rfl ?_
    refine J_iload_n (pc := 55) dX4_isDone_55 rfl ?_
    refine J_iload_n (pc := 56) dX4_isDone_56 rfl ?_
    refine J_cnI (pc := 57) (N := mX0_cure) dX4_isDone_57 ml_X4_115 cf_X0_cure cv_X0_cure (r_X0_cure hX (q2 (Or.inr (Or.inr rfl))) (q4 rfl) T) rfl rfl (Nat.le_of_ble_eq_true rfl) (by decide) (rv_of (ci := 0) (by first | exact cvn_n (by assumption) | rfl) rfl rfl) ?_
    intro x57 X57 hX57
    exact J_iret (pc := 60) rfl rfl (by rw [hX57.1]; exact bI_01 _) dX4_isDone_60 (hQ _ _ hX57)
  · have ey := hy (by decide)
    subst ey
    refine J_iload_n (pc := 0) dX4_isDone_0 rfl ?_
    refine J_tableIn (pc := 1) (off := 60) (tgt := 61) dX4_isDone_1 (by decide) (by decide) (by decide) (by decide) ?_
    refine J_aload_n (pc := 61) dX4_isDone_61 rfl ?_
    refine J_iload_n (pc := 62) dX4_isDone_62 rfl ?_
    refine J_cnI (pc := 63) (N := mX0_die) dX4_isDone_63 ml_X4_119 cf_X0_die cv_X0_die (r_X0_die (S := w1 S T) hX (q3 (Or.inr rfl))) rfl rfl (Nat.le_of_ble_eq_true rfl) (by decide) (rv_of (ci := 0) (by first | exact cvn_n (by assumption) | rfl) rfl rfl) ?_
    intro x63 X63 hX63
    exact J_iret (pc := 66) rfl rfl (by rw [hX63.1]; exact bI_01 _) dX4_isDone_66 (hQ _ _ hX63)
  · refine J_iload_n (pc := 0) dX4_isDone_0 rfl ?_
    refine J_tableOut (pc := 1) (tgt := 67) dX4_isDone_1 (by decide) (by decide) ?_
    refine J_aload_n (pc := 67) dX4_isDone_67 rfl ?_
    refine J_getrN (pc := 68) dX4_isDone_68 kc0 fl_X4_122 (by first | exact cvn_r0 (by assumption) | rfl) ?_
    refine J_iconst (pc := 71) (v := 0) dX4_isDone_71 (by decide) ?_
    refine J_il (pc := 72) dX4_isDone_72 (by first | exact cvn_e (by assumption) | rfl) (rfl : (0 : Int32) = nI 0) ⟨by first | decide | omega, by decide⟩ ?_
    refine J_t1 (hRC.1) ?_
    refine J_sipush (pc := 73) (v := 500) dX4_isDone_73 (by decide) ?_
    refine J_icmp_ge (pc := 76) (tgt := 90) dX4_isDone_76 (by decide) (fun c76 => ?_) (fun c76 => ?_)
    · refine J_iconst (pc := 90) (v := 0) dX4_isDone_90 (by decide) ?_
      exact J_iret (pc := 91) rfl rfl rfl dX4_isDone_91 (by first | exact hQ _ _ (by rw [show doA d m wv f (5, u, v, w) = (f, false) from if_pos c76]; exact ⟨rfl, CU_w hRC⟩) | exact hQ _ _ (by rw [show doA d m wv f (5, u, v, w) = (rDay (dNr d) f, true) from if_neg c76]; exact ⟨rfl, hX80.2⟩))
    · refine J_aload_n (pc := 79) dX4_isDone_79 rfl ?_
      refine J_cnI (pc := 80) (N := mX0_passDay) dX4_isDone_80 ml_X4_125 cf_X0_passDay cv_X0_passDay (r_X0_passDay (S := w1 S T) hX hDB hB) rfl rfl (Nat.le_of_ble_eq_true rfl) (by decide) (rv_of (ci := 0) (by first | exact cvn_n (by assumption) | rfl) rfl rfl) ?_
      intro x80 X80 hX80
      refine J_if_eq (pc := 83) (tgt := 90) dX4_isDone_83 (by decide) (fun c83 => absurd (hX80.1.symm.trans c83) (by decide)) (fun c83 => ?_)
      refine J_iconst (pc := 86) (v := 1) dX4_isDone_86 (by decide) ?_
      refine J_goto (pc := 87) (tgt := 91) dX4_isDone_87 (by decide) ?_
      exact J_iret (pc := 91) rfl rfl rfl dX4_isDone_91 (by first | exact hQ _ _ (by rw [show doA d m wv f (5, u, v, w) = (f, false) from if_pos c76]; exact ⟨rfl, CU_w hRC⟩) | exact hQ _ _ (by rw [show doA d m wv f (5, u, v, w) = (rDay (dNr d) f, true) from if_neg c76]; exact ⟨rfl, hX80.2⟩))

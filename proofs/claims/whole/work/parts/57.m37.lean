/-! ===== rows of a convent, as numbers; what the model's steps do to them ===== -/
abbrev Row : Type := Nat → Int32
abbrev dNs (d : HD) : Nat := d.1.length
abbrev dNr (d : HD) : Nat := d.2.2.1.length
abbrev dNp (d : HD) : Nat := d.2.2.2.length
abbrev dTm (d : HD) (s : Nat) : Nat := d.1.getD s 0
abbrev dOw (d : HD) (r : Nat) : Nat := (d.2.2.1.getD r (0, 0, 0)).1
abbrev dIl (d : HD) (r : Nat) : Nat := (d.2.2.1.getD r (0, 0, 0)).2.1
abbrev dWo (d : HD) (r : Nat) : Nat := (d.2.2.1.getD r (0, 0, 0)).2.2
abbrev dPi (d : HD) (p : Nat) : Nat := (d.2.2.2.getD p (0, 0)).1
abbrev dPn (d : HD) (p : Nat) : Nat := (d.2.2.2.getD p (0, 0)).2
theorem sAA_s (S : Sx) (a : Nat) (f : Row) : sa (sAA S a f) a = f := if_pos rfl
theorem sAA_o {S : Sx} {a b : Nat} {f : Row} (h : b ≠ a) : sa (sAA S a f) b = sa S b := if_neg h
theorem sAA_sAA (S : Sx) (a : Nat) (f h : Row) : sAA (sAA S a f) a h = sAA S a h := by
  have : (fun b => if b = a then h else (if b = a then f else sa S b)) = fun b => if b = a then h else sa S b := by
    funext b
    by_cases e : b = a
    · rw [if_pos e, if_pos e]
    · rw [if_neg e, if_neg e, if_neg e]
  show (sf S, sp S, (fun b => if b = a then h else (if b = a then f else sa S b)), sl S, sx S) = _
  rw [this]
  rfl
theorem sA_AA (S : Sx) (a k : Nat) (v : Int32) : sA S a k v = sAA S a (upd (sa S a) k v) := by
  rw [← sAA_put, sAA_self]
theorem sAA_F (S : Sx) (a : Nat) (f : Row) (b k : Nat) (v : Int32) : sF (sAA S a f) b k v = sAA (sF S b k v) a f := rfl
/-- the model's house is d -/
theorem HG_MH {S : Sx} {d : HD} (h : HG S d) (hv : HV d) : MH S (dNs d) (dNr d) (dNp d) (dOw d) := ⟨h.1, h.2.1, h.2.2.1, hv.1, hv.2.1, hv.2.2.1, fun r hr => ⟨(h.2.2.2.2.2.1 r hr).1, (hv.2.2.2.2.2.1 r hr).1⟩⟩
def kM (d : HD) (f : Row) (s : Nat) : Int32 := msk (fun r => decide (dOw d r = s ∧ f (16 + r) ≠ -1)) (dNr d)
def pwA (d : HD) (m : Nat) (wv : Nat → Nat × Nat) (f : Row) (r : Nat) (dy lp dd : Int32) : Int32 := pval m wv (kn8 (nI (dWo d r)) dy lp (nI (dTm d (dOw d r))) (nI (dIl d r)) (on1 (kM d f (dOw d r)) 10 - 1) (nI (dOw d r)) dd)
def pwN (d : HD) (m : Nat) (wv : Nat → Nat × Nat) (f : Row) (r : Nat) : Int32 := if f (16 + r) ≠ -1 then pwA d m wv f r (f (16 + r)) (f (8 + dOw d r)) (f 44) else 0
def abA (d : HD) (m : Nat) (wv : Nat → Nat × Nat) (f : Row) (r p : Nat) : Prop := dIl d r = dPi d p ∧ nI (dPn d p) ≤ pwN d m wv f r
def ccA (d : HD) (m : Nat) (wv : Nat → Nat × Nat) (f : Row) (r p : Nat) : Prop := f (36 + p) = -1 ∧ f (26 + r) = 0 ∧ dIl d r = dPi d p ∧ nI (dPn d p) ≤ pwN d m wv f r
def lapF (d : HD) (s i : Nat) (f : Row) : Row := fun k => if 16 ≤ k ∧ k < 16 + i ∧ dOw d (k - 16) = s ∧ f k ≠ -1 then f k / 2 else f k
def rLap (d : HD) (s : Nat) (f : Row) : Row := upd (lapF d s (dNr d) f) (8 + s) (f (8 + s) + 1)
def dayF (i : Nat) (f : Row) : Row := fun k => if 16 ≤ k ∧ k < 16 + i then f k + (if f k ≠ -1 then 1 else 0) else if 26 ≤ k ∧ k < 26 + i then 0 else f k
def rDay (nr : Nat) (f : Row) : Row := upd (dayF nr f) 44 (f 44 + 1)
def dieF (d : HD) (s i : Nat) (f : Row) : Row := fun k => if 16 ≤ k ∧ k < 16 + i ∧ dOw d (k - 16) = s then -1 else f k
def rDie (d : HD) (s : Nat) (f : Row) : Row := upd (dieF d s (dNr d) f) (0 + s) 1
def rCur (r p : Nat) (f : Row) : Row := upd (upd f (36 + p) (nI r)) (26 + r) 1
section RW1
variable {S : Sx} {d : HD} {a : Nat}
theorem HG_ow (h : HG S d) (hv : HV d) {r s : Nat} (hr : r < dNr d) (hs : s < 100) : sa S (80 + r) 0 = nI s ↔ dOw d r = s := by
  rw [(h.2.2.2.2.2.1 r hr).1]
  have := (hv.2.2.2.2.2.1 r hr).1
  have := hv.1
  exact nI_eq (by omega) (by omega)
theorem mko_A (h : HG S d) (hv : HV d) {s : Nat} (hs : s < 100) : mko S a (nI s) (dNr d) = kM d (sa S a) s := by
  unfold mko kM
  exact msk_congr (fun r hr => decide_eq_decide.mpr (by rw [HG_ow h hv hr hs]))
theorem mpo_A (h : HG S d) (hv : HV d) {m : Nat} {wv : Nat → Nat × Nat} {r : Nat} (hr : r < dNr d) (dy lp dd : Int32) : mpo S a (dNr d) (dOw d) m wv r dy lp dd = pwA d m wv (sa S a) r dy lp dd := by
  have h1 : dOw d r < dNs d := (hv.2.2.2.2.2.1 r hr).1
  have h2 : dNs d ≤ 8 := hv.1
  unfold mpo pwA
  rw [mko_A h hv (show dOw d r < 100 by omega), (h.2.2.2.2.2.1 r hr).2.2, (h.2.2.2.2.2.1 r hr).2.1, h.2.2.2.1 _ h1]
theorem mpw_A (h : HG S d) (hv : HV d) {m : Nat} {wv : Nat → Nat × Nat} {r : Nat} (hr : r < dNr d) : mpw S a (dNr d) (dOw d) m wv r = pwN d m wv (sa S a) r := by
  unfold mpw pwN
  rw [mpo_A h hv hr]
theorem mab_A (h : HG S d) (hv : HV d) {m : Nat} {wv : Nat → Nat × Nat} {r p : Nat} (hr : r < dNr d) (hp : p < dNp d) : (sa S (80 + r) 1 = sa S (100 + p) 0 ∧ sa S (100 + p) 1 ≤ mpw S a (dNr d) (dOw d) m wv r) ↔ abA d m wv (sa S a) r p := by
  have h1 := (hv.2.2.2.2.2.1 r hr).2.1
  have h2 := (hv.2.2.2.2.2.2 p hp).1
  unfold abA
  rw [mpw_A h hv hr, (h.2.2.2.2.2.1 r hr).2.1, (h.2.2.2.2.2.2 p hp).1, (h.2.2.2.2.2.2 p hp).2, nI_eq (by omega) (by omega)]
theorem lpS_A (h : HG S d) (hv : HV d) (ha : 200 ≤ a) {s : Nat} (hs : s < 100) : ∀ i, i ≤ dNr d → lpS S a (nI s) (dNr d) i = sAA S a (lapF d s i (sa S a))
  | 0, _ => by
    have : lapF d s 0 (sa S a) = sa S a := by funext k; unfold lapF; rw [if_neg (by omega)]
    rw [this, sAA_self]
    rfl
  | i + 1, hi => by
    have h10 : dNr d ≤ 10 := hv.2.1
    have ih := lpS_A h hv ha hs i (by omega)
    show sA (lpS S a (nI s) (dNr d) i) a (16 + i) (if mko (lpS S a (nI s) (dNr d) i) a (nI s) (dNr d) >>> (ix i &&& 31) &&& 1 = 1 then sa (lpS S a (nI s) (dNr d) i) a (16 + i) / 2 else sa (lpS S a (nI s) (dNr d) i) a (16 + i)) = _
    rw [ih, sAA_put, sAA_s]
    congr 1
    have e1 : lapF d s i (sa S a) (16 + i) = sa S a (16 + i) := by unfold lapF; rw [if_neg (by omega)]
    have e2 : (mko (sAA S a (lapF d s i (sa S a))) a (nI s) (dNr d) >>> (ix i &&& 31) &&& 1 = 1) ↔ (dOw d i = s ∧ sa S a (16 + i) ≠ -1) := by
      rw [ix_nI, bt_t _ (show i < 32 by omega)]
      unfold mko
      rw [bt_msk _ _ (by omega), sAA_s, sAA_o (show 80 + i ≠ a by omega), e1, decide_eq_true (show i < dNr d by omega), Bool.true_and]
      rw [← HG_ow h hv (show i < dNr d by omega) hs]
      by_cases q : sa S (80 + i) 0 = nI s ∧ sa S a (16 + i) ≠ -1
      · rw [decide_eq_true q]; exact ⟨fun _ => q, fun _ => rfl⟩
      · rw [decide_eq_false q]; exact ⟨fun z => absurd z (by decide), fun z => absurd z q⟩
    rw [e1]
    funext k
    by_cases ek : k = 16 + i
    · subst ek
      rw [pk_us]
      by_cases q : dOw d i = s ∧ sa S a (16 + i) ≠ -1
      · rw [if_pos (e2.mpr q)]
        unfold lapF
        rw [if_pos ⟨by omega, by omega, by rw [show 16 + i - 16 = i by omega]; exact q.1, q.2⟩]
      · rw [if_neg (fun z => q (e2.mp z))]
        unfold lapF
        rw [if_neg (fun z => q ⟨by have := z.2.2.1; rwa [show 16 + i - 16 = i by omega] at this, z.2.2.2⟩)]
    · rw [pk_un ek]
      unfold lapF
      by_cases q : 16 ≤ k ∧ k < 16 + i ∧ dOw d (k - 16) = s ∧ sa S a k ≠ -1
      · rw [if_pos q, if_pos ⟨q.1, by omega, q.2.2⟩]
      · rw [if_neg q, if_neg (fun z => q ⟨z.1, by omega, z.2.2⟩)]
theorem lpE_A (h : HG S d) (hv : HV d) (ha : 200 ≤ a) {s : Nat} (hs : s < dNs d) : lpE S a s (dNr d) = sAA S a (rLap d s (sa S a)) := by
  have h8 : dNs d ≤ 8 := hv.1
  unfold lpE rLap
  rw [lpS_A h hv ha (by omega) _ (Nat.le_refl _), sAA_put, sAA_s]
  have : lapF d s (dNr d) (sa S a) (8 + s) = sa S a (8 + s) := by unfold lapF; rw [if_neg (by omega)]
  rw [this]
theorem dyS_A (S : Sx) (a : Nat) : ∀ i, i ≤ 10 → dyS S a i = sAA S a (dayF i (sa S a))
  | 0, _ => by
    have : dayF 0 (sa S a) = sa S a := by funext k; unfold dayF; rw [if_neg (by omega), if_neg (by omega)]
    rw [this, sAA_self]
    rfl
  | i + 1, hi => by
    show sA (sA (dyS S a i) a (16 + i) (sa (dyS S a i) a (16 + i) + (if sa (dyS S a i) a (16 + i) ≠ -1 then 1 else 0))) a (26 + i) 0 = _
    rw [dyS_A S a i (by omega), sAA_put, sAA_put, sAA_s]
    congr 1
    have e1 : dayF i (sa S a) (16 + i) = sa S a (16 + i) := by unfold dayF; rw [if_neg (by omega), if_neg (by omega)]
    rw [e1]
    funext k
    by_cases e2 : k = 26 + i
    · subst e2
      rw [pk_us]
      unfold dayF
      rw [if_neg (by omega), if_pos (by omega)]
    · rw [pk_un e2]
      by_cases e3 : k = 16 + i
      · subst e3
        rw [pk_us]
        unfold dayF
        rw [if_pos (show 16 ≤ 16 + i ∧ 16 + i < 16 + (i + 1) by omega)]
      · rw [pk_un e3]
        unfold dayF
        by_cases q1 : 16 ≤ k ∧ k < 16 + i
        · rw [if_pos q1, if_pos (show 16 ≤ k ∧ k < 16 + (i + 1) by omega)]
        · rw [if_neg q1, if_neg (show ¬ (16 ≤ k ∧ k < 16 + (i + 1)) by omega)]
          by_cases q2 : 26 ≤ k ∧ k < 26 + i
          · rw [if_pos q2, if_pos (show 26 ≤ k ∧ k < 26 + (i + 1) by omega)]
          · rw [if_neg q2, if_neg (show ¬ (26 ≤ k ∧ k < 26 + (i + 1)) by omega)]
theorem dyE_A (S : Sx) (a : Nat) {nr : Nat} (h : nr ≤ 10) : dyE S a nr = sAA S a (rDay nr (sa S a)) := by
  unfold dyE rDay
  rw [dyS_A S a nr h, sAA_put, sAA_s]
  have : dayF nr (sa S a) 44 = sa S a 44 := by unfold dayF; rw [if_neg (by omega), if_neg (by omega)]
  rw [this]
end RW1
def doA (d : HD) (m : Nat) (wv : Nat → Nat × Nat) (f : Row) (q : Q4) : Row × Bool := match q.1 with
  | 0 => if f (16 + q.2.1) ≠ -1 ∨ f (0 + dOw d q.2.1) = 1 then (f, false) else (upd f (16 + q.2.1) 0, true)
  | 1 => if f (16 + q.2.1) ≠ -1 then (upd f (16 + q.2.1) (-1), true) else (f, false)
  | 2 => if f (0 + q.2.1) = 0 ∧ kM d f q.2.1 ≠ 0 then (rLap d q.2.1 f, true) else (f, false)
  | 3 => if f (36 + q.2.2.1) = -1 ∧ f (26 + q.2.1) = 0 ∧ dIl d q.2.1 = dPi d q.2.2.1 ∧ nI (dPn d q.2.2.1) ≤ pwN d m wv f q.2.1 then (rCur q.2.1 q.2.2.1 f, true) else (f, false)
  | 4 => if f (0 + q.2.1) = 1 then (f, false) else (rDie d q.2.1 f, true)
  | _ => if 500 ≤ f 44 then (f, false) else (rDay (dNr d) f, true)
def okq (d : HD) (q : Q4) : Prop := q.1 ≤ 6 ∧ ((q.1 = 0 ∨ q.1 = 1 ∨ q.1 = 3) → q.2.1 < dNr d) ∧ ((q.1 = 2 ∨ q.1 = 4) → q.2.1 < dNs d) ∧ (q.1 = 3 → q.2.2.1 < dNp d) ∧ (q.1 = 6 → q.2.1 ≤ 40)
theorem r_does0f {g : Gp} {S : Sx} {d : HD} {m i : Nat} {wv : Nat → Nat × Nat} (hG : HG S d) (hV : HV d) (hW : LawW m wv) (hM : LawM S m wv) (hi8 : i < 80) (hk : sa S (455 + i) 0 = 0) {a : Nat} (h1 : sa S (455 + i) 1 = nI a) (ha : a < dNr d) (c : sa S 535 (16 + a) ≠ -1 ∨ sa S 535 (0 + dOw d a) = 1) : RW g mX11_does 9 [.ref 59, .ref 535, .ref (455 + i)] S (some (.int 0)) S := by
  refine RW_ofQ ⟨rfl, rfl⟩ (Nat.le_of_ble_eq_true rfl) (fun T sz Q hQ => ?_)
  have hH := HG_MH hG hV
  have h10 : dNr d ≤ 10 := hV.2.1
  have h88 : dNs d ≤ 8 := hV.1
  refine J_aload_n (pc := 0) dX11_does_0 rfl ?_
  refine J_iconst (pc := 1) (v := 1) dX11_does_1 (by decide) ?_
  refine J_il (pc := 2) dX11_does_2 (lay_step hi8) (rfl : (1 : Int32) = nI 1) ⟨by first | decide | omega, by decide⟩ ?_
  refine J_t1 (y := nI a) h1 ?_
  refine J_istore_n (pc := 3) dX11_does_3 (by decide) rfl ?_
  refine J_aload_n (pc := 4) dX11_does_4 rfl ?_
  refine J_iconst (pc := 5) (v := 0) dX11_does_5 (by decide) ?_
  refine J_il (pc := 6) dX11_does_6 (lay_step hi8) (rfl : (0 : Int32) = nI 0) ⟨by first | decide | omega, by decide⟩ ?_
  refine J_t1 (y := 0) hk ?_
  refine J_tableIn (pc := 7) (off := 33) (tgt := 40) dX11_does_7 (by decide) (by decide) (by decide) (by decide) ?_
  refine J_aload_n (pc := 40) dX11_does_40 rfl ?_
  refine J_iload_n (pc := 41) dX11_does_41 rfl ?_
  refine J_csr (pc := 42) (N := mX11_isKept) dX11_does_42 ml_X11_267 cf_X11_isKept cs_X11_isKept (r_X11_isKept (a := 535) (r := a) rfl (by omega)) rfl rfl (Nat.le_of_ble_eq_true rfl) (by decide) ?_
  refine J_ifp_ne (pc := 45) (tgt := 64) dX11_does_45 (by decide) (fun c45 => ?_) (fun c45 => ?_)
  · refine J_iconst (pc := 64) (v := 0) dX11_does_64 (by decide) ?_
    exact J_iret (pc := 65) rfl rfl rfl dX11_does_65 (rqw hQ rfl rfl)
  · have c2 : sa S 535 (0 + dOw d a) = 1 := c.resolve_left c45
    have how : dOw d a < dNs d := (hV.2.2.2.2.2.1 a ha).1
    refine J_aload_n (pc := 48) dX11_does_48 rfl ?_
    refine J_iconst (pc := 49) (v := 0) dX11_does_49 (by decide) ?_
    refine J_aload_n (pc := 50) dX11_does_50 rfl ?_
    refine J_getr (pc := 51) dX11_does_51 kc11 fl_X11_43 rfl ?_
    refine J_iload_n (pc := 54) dX11_does_54 rfl ?_
    refine J_ar1 (pc := 55) dX11_does_55 rfl rfl ⟨by omega, by decide⟩ ?_
    refine J_iconst (pc := 56) (v := 0) dX11_does_56 (by decide) ?_
    refine J_il (pc := 57) dX11_does_57 (lay_relic (by omega)) (rfl : (0 : Int32) = nI 0) ⟨by first | decide | omega, by decide⟩ ?_
    refine J_t1 (y := nI (dOw d a)) (hG.2.2.2.2.2.1 a ha).1 ?_
    refine J_iadd (pc := 58) dX11_does_58 ?_
    refine J_il (pc := 59) dX11_does_59 (by first | rfl | assumption) (nI_add 0 _) ⟨by omega, by decide⟩ ?_
    refine J_iconst (pc := 60) (v := 1) dX11_does_60 (by decide) ?_
    refine J_icmp_ne (pc := 61) (tgt := 66) dX11_does_61 (by decide) (fun c61 => absurd c2 c61) (fun c61 => ?_)
    refine J_iconst (pc := 64) (v := 0) dX11_does_64 (by decide) ?_
    exact J_iret (pc := 65) rfl rfl rfl dX11_does_65 (rqw hQ rfl rfl)
theorem r_does0t {g : Gp} {S : Sx} {d : HD} {m i : Nat} {wv : Nat → Nat × Nat} (hG : HG S d) (hV : HV d) (hW : LawW m wv) (hM : LawM S m wv) (hi8 : i < 80) (hk : sa S (455 + i) 0 = 0) {a : Nat} (h1 : sa S (455 + i) 1 = nI a) (ha : a < dNr d) (c : ¬ (sa S 535 (16 + a) ≠ -1 ∨ sa S 535 (0 + dOw d a) = 1)) : RW g mX11_does 9 [.ref 59, .ref 535, .ref (455 + i)] S (some (.int 1)) (sAA S 535 (upd (sa S 535) (16 + a) 0)) := by
  refine RW_ofQ ⟨rfl, rfl⟩ (Nat.le_of_ble_eq_true rfl) (fun T sz Q hQ => ?_)
  have hH := HG_MH hG hV
  have h10 : dNr d ≤ 10 := hV.2.1
  have h88 : dNs d ≤ 8 := hV.1
  have how : dOw d a < dNs d := (hV.2.2.2.2.2.1 a ha).1
  refine J_aload_n (pc := 0) dX11_does_0 rfl ?_
  refine J_iconst (pc := 1) (v := 1) dX11_does_1 (by decide) ?_
  refine J_il (pc := 2) dX11_does_2 (lay_step hi8) (rfl : (1 : Int32) = nI 1) ⟨by first | decide | omega, by decide⟩ ?_
  refine J_t1 (y := nI a) h1 ?_
  refine J_istore_n (pc := 3) dX11_does_3 (by decide) rfl ?_
  refine J_aload_n (pc := 4) dX11_does_4 rfl ?_
  refine J_iconst (pc := 5) (v := 0) dX11_does_5 (by decide) ?_
  refine J_il (pc := 6) dX11_does_6 (lay_step hi8) (rfl : (0 : Int32) = nI 0) ⟨by first | decide | omega, by decide⟩ ?_
  refine J_t1 (y := 0) hk ?_
  refine J_tableIn (pc := 7) (off := 33) (tgt := 40) dX11_does_7 (by decide) (by decide) (by decide) (by decide) ?_
  refine J_aload_n (pc := 40) dX11_does_40 rfl ?_
  refine J_iload_n (pc := 41) dX11_does_41 rfl ?_
  refine J_csr (pc := 42) (N := mX11_isKept) dX11_does_42 ml_X11_267 cf_X11_isKept cs_X11_isKept (r_X11_isKept (a := 535) (r := a) rfl (by omega)) rfl rfl (Nat.le_of_ble_eq_true rfl) (by decide) ?_
  refine J_ifp_ne (pc := 45) (tgt := 64) dX11_does_45 (by decide) (fun c45 => absurd c45 (fun z => c (Or.inl z))) (fun c45 => ?_)
  refine J_aload_n (pc := 48) dX11_does_48 rfl ?_
  refine J_iconst (pc := 49) (v := 0) dX11_does_49 (by decide) ?_
  refine J_aload_n (pc := 50) dX11_does_50 rfl ?_
  refine J_getr (pc := 51) dX11_does_51 kc11 fl_X11_43 rfl ?_
  refine J_iload_n (pc := 54) dX11_does_54 rfl ?_
  refine J_ar1 (pc := 55) dX11_does_55 rfl rfl ⟨by omega, by decide⟩ ?_
  refine J_iconst (pc := 56) (v := 0) dX11_does_56 (by decide) ?_
  refine J_il (pc := 57) dX11_does_57 (lay_relic (by omega)) (rfl : (0 : Int32) = nI 0) ⟨by first | decide | omega, by decide⟩ ?_
  refine J_t1 (y := nI (dOw d a)) (hG.2.2.2.2.2.1 a ha).1 ?_
  refine J_iadd (pc := 58) dX11_does_58 ?_
  refine J_il (pc := 59) dX11_does_59 (by first | rfl | assumption) (nI_add 0 _) ⟨by omega, by decide⟩ ?_
  refine J_iconst (pc := 60) (v := 1) dX11_does_60 (by decide) ?_
  refine J_icmp_ne (pc := 61) (tgt := 66) dX11_does_61 (by decide) (fun c61 => ?_) (fun c61 => absurd c61 (fun z => c (Or.inr z)))
  refine J_aload_n (pc := 66) dX11_does_66 rfl ?_
  refine J_bipush (pc := 67) (v := 16) dX11_does_67 (by decide) ?_
  refine J_iload_n (pc := 69) dX11_does_69 rfl ?_
  refine J_iadd (pc := 70) dX11_does_70 ?_
  refine J_iconst (pc := 71) (v := 0) dX11_does_71 (by decide) ?_
  refine J_isw (pc := 72) dX11_does_72 (by first | rfl | assumption) (nI_add 16 a) ⟨by omega, by decide⟩ ?_
  refine J_iconst (pc := 73) (v := 1) dX11_does_73 (by decide) ?_
  exact J_iret (pc := 74) rfl rfl rfl dX11_does_74 (rqw hQ rfl (sA_AA _ _ _ _))
theorem r_does1f {g : Gp} {S : Sx} {d : HD} {m i : Nat} {wv : Nat → Nat × Nat} (hG : HG S d) (hV : HV d) (hW : LawW m wv) (hM : LawM S m wv) (hi8 : i < 80) (hk : sa S (455 + i) 0 = 1) {a : Nat} (h1 : sa S (455 + i) 1 = nI a) (ha : a < dNr d) (c : ¬ sa S 535 (16 + a) ≠ -1) : RW g mX11_does 9 [.ref 59, .ref 535, .ref (455 + i)] S (some (.int 0)) S := by
  refine RW_ofQ ⟨rfl, rfl⟩ (Nat.le_of_ble_eq_true rfl) (fun T sz Q hQ => ?_)
  have hH := HG_MH hG hV
  have h10 : dNr d ≤ 10 := hV.2.1
  have h88 : dNs d ≤ 8 := hV.1
  refine J_aload_n (pc := 0) dX11_does_0 rfl ?_
  refine J_iconst (pc := 1) (v := 1) dX11_does_1 (by decide) ?_
  refine J_il (pc := 2) dX11_does_2 (lay_step hi8) (rfl : (1 : Int32) = nI 1) ⟨by first | decide | omega, by decide⟩ ?_
  refine J_t1 (y := nI a) h1 ?_
  refine J_istore_n (pc := 3) dX11_does_3 (by decide) rfl ?_
  refine J_aload_n (pc := 4) dX11_does_4 rfl ?_
  refine J_iconst (pc := 5) (v := 0) dX11_does_5 (by decide) ?_
  refine J_il (pc := 6) dX11_does_6 (lay_step hi8) (rfl : (0 : Int32) = nI 0) ⟨by first | decide | omega, by decide⟩ ?_
  refine J_t1 (y := 1) hk ?_
  refine J_tableIn (pc := 7) (off := 68) (tgt := 75) dX11_does_7 (by decide) (by decide) (by decide) (by decide) ?_
  refine J_aload_n (pc := 75) dX11_does_75 rfl ?_
  refine J_iload_n (pc := 76) dX11_does_76 rfl ?_
  refine J_csr (pc := 77) (N := mX11_isKept) dX11_does_77 ml_X11_267 cf_X11_isKept cs_X11_isKept (r_X11_isKept (a := 535) (r := a) rfl (by omega)) rfl rfl (Nat.le_of_ble_eq_true rfl) (by decide) ?_
  refine J_ifp_ne (pc := 80) (tgt := 85) dX11_does_80 (by decide) (fun c80 => absurd c80 c) (fun c80 => ?_)
  refine J_iconst (pc := 83) (v := 0) dX11_does_83 (by decide) ?_
  exact J_iret (pc := 84) rfl rfl rfl dX11_does_84 (rqw hQ rfl rfl)
theorem r_does1t {g : Gp} {S : Sx} {d : HD} {m i : Nat} {wv : Nat → Nat × Nat} (hG : HG S d) (hV : HV d) (hW : LawW m wv) (hM : LawM S m wv) (hi8 : i < 80) (hk : sa S (455 + i) 0 = 1) {a : Nat} (h1 : sa S (455 + i) 1 = nI a) (ha : a < dNr d) (c : sa S 535 (16 + a) ≠ -1) : RW g mX11_does 9 [.ref 59, .ref 535, .ref (455 + i)] S (some (.int 1)) (sAA S 535 (upd (sa S 535) (16 + a) (-1))) := by
  refine RW_ofQ ⟨rfl, rfl⟩ (Nat.le_of_ble_eq_true rfl) (fun T sz Q hQ => ?_)
  have hH := HG_MH hG hV
  have h10 : dNr d ≤ 10 := hV.2.1
  have h88 : dNs d ≤ 8 := hV.1
  refine J_aload_n (pc := 0) dX11_does_0 rfl ?_
  refine J_iconst (pc := 1) (v := 1) dX11_does_1 (by decide) ?_
  refine J_il (pc := 2) dX11_does_2 (lay_step hi8) (rfl : (1 : Int32) = nI 1) ⟨by first | decide | omega, by decide⟩ ?_
  refine J_t1 (y := nI a) h1 ?_
  refine J_istore_n (pc := 3) dX11_does_3 (by decide) rfl ?_
  refine J_aload_n (pc := 4) dX11_does_4 rfl ?_
  refine J_iconst (pc := 5) (v := 0) dX11_does_5 (by decide) ?_
  refine J_il (pc := 6) dX11_does_6 (lay_step hi8) (rfl : (0 : Int32) = nI 0) ⟨by first | decide | omega, by decide⟩ ?_
  refine J_t1 (y := 1) hk ?_
  refine J_tableIn (pc := 7) (off := 68) (tgt := 75) dX11_does_7 (by decide) (by decide) (by decide) (by decide) ?_
  refine J_aload_n (pc := 75) dX11_does_75 rfl ?_
  refine J_iload_n (pc := 76) dX11_does_76 rfl ?_
  refine J_csr (pc := 77) (N := mX11_isKept) dX11_does_77 ml_X11_267 cf_X11_isKept cs_X11_isKept (r_X11_isKept (a := 535) (r := a) rfl (by omega)) rfl rfl (Nat.le_of_ble_eq_true rfl) (by decide) ?_
  refine J_ifp_ne (pc := 80) (tgt := 85) dX11_does_80 (by decide) (fun c80 => ?_) (fun c80 => absurd c c80)
  refine J_aload_n (pc := 85) dX11_does_85 rfl ?_
  refine J_bipush (pc := 86) (v := 16) dX11_does_86 (by decide) ?_
  refine J_iload_n (pc := 88) dX11_does_88 rfl ?_
  refine J_iadd (pc := 89) dX11_does_89 ?_
  refine J_iconst (pc := 90) (v := -1) dX11_does_90 (by decide) ?_
  refine J_isw (pc := 91) dX11_does_91 (by first | rfl | assumption) (nI_add 16 a) ⟨by omega, by decide⟩ ?_
  refine J_iconst (pc := 92) (v := 1) dX11_does_92 (by decide) ?_
  exact J_iret (pc := 93) rfl rfl rfl dX11_does_93 (rqw hQ rfl (sA_AA _ _ _ _))
theorem r_does2f {g : Gp} {S : Sx} {d : HD} {m i : Nat} {wv : Nat → Nat × Nat} (hG : HG S d) (hV : HV d) (hW : LawW m wv) (hM : LawM S m wv) (hi8 : i < 80) (hk : sa S (455 + i) 0 = 2) {a : Nat} (h1 : sa S (455 + i) 1 = nI a) (ha : a < dNs d) (c : ¬ (sa S 535 (0 + a) = 0 ∧ kM d (sa S 535) a ≠ 0)) : RW g mX11_does 9 [.ref 59, .ref 535, .ref (455 + i)] S (some (.int 0)) S := by
  refine RW_ofQ ⟨rfl, rfl⟩ (Nat.le_of_ble_eq_true rfl) (fun T sz Q hQ => ?_)
  have hH := HG_MH hG hV
  have h10 : dNr d ≤ 10 := hV.2.1
  have h88 : dNs d ≤ 8 := hV.1
  refine J_aload_n (pc := 0) dX11_does_0 rfl ?_
  refine J_iconst (pc := 1) (v := 1) dX11_does_1 (by decide) ?_
  refine J_il (pc := 2) dX11_does_2 (lay_step hi8) (rfl : (1 : Int32) = nI 1) ⟨by first | decide | omega, by decide⟩ ?_
  refine J_t1 (y := nI a) h1 ?_
  refine J_istore_n (pc := 3) dX11_does_3 (by decide) rfl ?_
  refine J_aload_n (pc := 4) dX11_does_4 rfl ?_
  refine J_iconst (pc := 5) (v := 0) dX11_does_5 (by decide) ?_
  refine J_il (pc := 6) dX11_does_6 (lay_step hi8) (rfl : (0 : Int32) = nI 0) ⟨by first | decide | omega, by decide⟩ ?_
  refine J_t1 (y := 2) hk ?_
  refine J_tableIn (pc := 7) (off := 87) (tgt := 94) dX11_does_7 (by decide) (by decide) (by decide) (by decide) ?_
  refine J_aload_n (pc := 94) dX11_does_94 rfl ?_
  refine J_aload_n (pc := 95) dX11_does_95 rfl ?_
  refine J_iload_n (pc := 96) dX11_does_96 rfl ?_
  refine J_cvr (pc := 97) (N := mX11_lapses) dX11_does_97 ml_X11_302 cf_X11_lapses cv_X11_lapses (r_X11_lapses_f (a := 535) (s := a) rfl (show MH (w1 S T) _ _ _ _ from hH) ha (by rw [mko_A (S := w1 S T) hG hV (by omega)]; exact c)) rfl rfl (Nat.le_of_ble_eq_true rfl) (by decide) (rv_of (ci := 11) rfl rfl rfl) ?_
  exact J_iret (pc := 100) rfl rfl rfl dX11_does_100 (rqw hQ rfl rfl)
theorem r_does2t {g : Gp} {S : Sx} {d : HD} {m i : Nat} {wv : Nat → Nat × Nat} (hG : HG S d) (hV : HV d) (hW : LawW m wv) (hM : LawM S m wv) (hi8 : i < 80) (hk : sa S (455 + i) 0 = 2) {a : Nat} (h1 : sa S (455 + i) 1 = nI a) (ha : a < dNs d) (c : sa S 535 (0 + a) = 0 ∧ kM d (sa S 535) a ≠ 0) : RW g mX11_does 9 [.ref 59, .ref 535, .ref (455 + i)] S (some (.int 1)) (sAA S 535 (rLap d a (sa S 535))) := by
  refine RW_ofQ ⟨rfl, rfl⟩ (Nat.le_of_ble_eq_true rfl) (fun T sz Q hQ => ?_)
  have hH := HG_MH hG hV
  have h10 : dNr d ≤ 10 := hV.2.1
  have h88 : dNs d ≤ 8 := hV.1
  refine J_aload_n (pc := 0) dX11_does_0 rfl ?_
  refine J_iconst (pc := 1) (v := 1) dX11_does_1 (by decide) ?_
  refine J_il (pc := 2) dX11_does_2 (lay_step hi8) (rfl : (1 : Int32) = nI 1) ⟨by first | decide | omega, by decide⟩ ?_
  refine J_t1 (y := nI a) h1 ?_
  refine J_istore_n (pc := 3) dX11_does_3 (by decide) rfl ?_
  refine J_aload_n (pc := 4) dX11_does_4 rfl ?_
  refine J_iconst (pc := 5) (v := 0) dX11_does_5 (by decide) ?_
  refine J_il (pc := 6) dX11_does_6 (lay_step hi8) (rfl : (0 : Int32) = nI 0) ⟨by first | decide | omega, by decide⟩ ?_
  refine J_t1 (y := 2) hk ?_
  refine J_tableIn (pc := 7) (off := 87) (tgt := 94) dX11_does_7 (by decide) (by decide) (by decide) (by decide) ?_
  refine J_aload_n (pc := 94) dX11_does_94 rfl ?_
  refine J_aload_n (pc := 95) dX11_does_95 rfl ?_
  refine J_iload_n (pc := 96) dX11_does_96 rfl ?_
  refine J_cvr (pc := 97) (N := mX11_lapses) dX11_does_97 ml_X11_302 cf_X11_lapses cv_X11_lapses (r_X11_lapses_t (S := w1 S T) (a := 535) (s := a) rfl (show MH (w1 S T) _ _ _ _ from hH) ha (by rw [mko_A (S := w1 S T) hG hV (by omega)]; exact c)) rfl rfl (Nat.le_of_ble_eq_true rfl) (by decide) (rv_of (ci := 11) rfl rfl rfl) ?_
  refine J_cg2 (lpE_w1 S T 535 a (dNr d)) ?_
  refine J_cg2 (congrArg (fun z => w1 z T) (lpE_A hG hV (by decide) ha)) ?_
  exact J_iret (pc := 100) rfl rfl rfl dX11_does_100 (rqw hQ rfl rfl)
theorem r_does3f {g : Gp} {S : Sx} {d : HD} {m i : Nat} {wv : Nat → Nat × Nat} (hG : HG S d) (hV : HV d) (hW : LawW m wv) (hM : LawM S m wv) (hi8 : i < 80) (hk : sa S (455 + i) 0 = 3) {a : Nat} (h1 : sa S (455 + i) 1 = nI a) {b : Nat} (h2 : sa S (455 + i) 2 = nI b) (ha : a < dNr d) (hb : b < dNp d) (c : ¬ (sa S 535 (36 + b) = -1 ∧ sa S 535 (26 + a) = 0 ∧ dIl d a = dPi d b ∧ nI (dPn d b) ≤ pwN d m wv (sa S 535) a)) : RW g mX11_does 9 [.ref 59, .ref 535, .ref (455 + i)] S (some (.int 0)) S := by
  refine RW_ofQ ⟨rfl, rfl⟩ (Nat.le_of_ble_eq_true rfl) (fun T sz Q hQ => ?_)
  have hH := HG_MH hG hV
  have h10 : dNr d ≤ 10 := hV.2.1
  have h88 : dNs d ≤ 8 := hV.1
  refine J_aload_n (pc := 0) dX11_does_0 rfl ?_
  refine J_iconst (pc := 1) (v := 1) dX11_does_1 (by decide) ?_
  refine J_il (pc := 2) dX11_does_2 (lay_step hi8) (rfl : (1 : Int32) = nI 1) ⟨by first | decide | omega, by decide⟩ ?_
  refine J_t1 (y := nI a) h1 ?_
  refine J_istore_n (pc := 3) dX11_does_3 (by decide) rfl ?_
  refine J_aload_n (pc := 4) dX11_does_4 rfl ?_
  refine J_iconst (pc := 5) (v := 0) dX11_does_5 (by decide) ?_
  refine J_il (pc := 6) dX11_does_6 (lay_step hi8) (rfl : (0 : Int32) = nI 0) ⟨by first | decide | omega, by decide⟩ ?_
  refine J_t1 (y := 3) hk ?_
  refine J_tableIn (pc := 7) (off := 94) (tgt := 101) dX11_does_7 (by decide) (by decide) (by decide) (by decide) ?_
  refine J_aload_n (pc := 101) dX11_does_101 rfl ?_
  refine J_aload_n (pc := 102) dX11_does_102 rfl ?_
  refine J_iload_n (pc := 103) dX11_does_103 rfl ?_
  refine J_aload_n (pc := 104) dX11_does_104 rfl ?_
  refine J_iconst (pc := 105) (v := 2) dX11_does_105 (by decide) ?_
  refine J_il (pc := 106) dX11_does_106 (lay_step hi8) (rfl : (2 : Int32) = nI 2) ⟨by first | decide | omega, by decide⟩ ?_
  refine J_t1 (y := nI b) h2 ?_
  refine J_cvw (pc := 107) (N := mX11_cures) dX11_does_107 ml_X11_305 cf_X11_cures cv_X11_cures (r_X11_cures_f (S := S) (a := 535) (r := a) (p := b) rfl hH hW hM ha hb (fun z => c ⟨z.1, z.2.1, (mab_A hG hV ha hb).mp z.2.2⟩)) rfl rfl (Nat.le_of_ble_eq_true rfl) (by decide) (rv_of (ci := 11) rfl rfl rfl) ?_
  intro T
  exact J_iret (pc := 110) rfl rfl rfl dX11_does_110 (rqw hQ rfl rfl)
theorem r_does3t {g : Gp} {S : Sx} {d : HD} {m i : Nat} {wv : Nat → Nat × Nat} (hG : HG S d) (hV : HV d) (hW : LawW m wv) (hM : LawM S m wv) (hi8 : i < 80) (hk : sa S (455 + i) 0 = 3) {a : Nat} (h1 : sa S (455 + i) 1 = nI a) {b : Nat} (h2 : sa S (455 + i) 2 = nI b) (ha : a < dNr d) (hb : b < dNp d) (c : sa S 535 (36 + b) = -1 ∧ sa S 535 (26 + a) = 0 ∧ dIl d a = dPi d b ∧ nI (dPn d b) ≤ pwN d m wv (sa S 535) a) : RW g mX11_does 9 [.ref 59, .ref 535, .ref (455 + i)] S (some (.int 1)) (sAA S 535 (rCur a b (sa S 535))) := by
  refine RW_ofQ ⟨rfl, rfl⟩ (Nat.le_of_ble_eq_true rfl) (fun T sz Q hQ => ?_)
  have hH := HG_MH hG hV
  have h10 : dNr d ≤ 10 := hV.2.1
  have h88 : dNs d ≤ 8 := hV.1
  refine J_aload_n (pc := 0) dX11_does_0 rfl ?_
  refine J_iconst (pc := 1) (v := 1) dX11_does_1 (by decide) ?_
  refine J_il (pc := 2) dX11_does_2 (lay_step hi8) (rfl : (1 : Int32) = nI 1) ⟨by first | decide | omega, by decide⟩ ?_
  refine J_t1 (y := nI a) h1 ?_
  refine J_istore_n (pc := 3) dX11_does_3 (by decide) rfl ?_
  refine J_aload_n (pc := 4) dX11_does_4 rfl ?_
  refine J_iconst (pc := 5) (v := 0) dX11_does_5 (by decide) ?_
  refine J_il (pc := 6) dX11_does_6 (lay_step hi8) (rfl : (0 : Int32) = nI 0) ⟨by first | decide | omega, by decide⟩ ?_
  refine J_t1 (y := 3) hk ?_
  refine J_tableIn (pc := 7) (off := 94) (tgt := 101) dX11_does_7 (by decide) (by decide) (by decide) (by decide) ?_
  refine J_aload_n (pc := 101) dX11_does_101 rfl ?_
  refine J_aload_n (pc := 102) dX11_does_102 rfl ?_
  refine J_iload_n (pc := 103) dX11_does_103 rfl ?_
  refine J_aload_n (pc := 104) dX11_does_104 rfl ?_
  refine J_iconst (pc := 105) (v := 2) dX11_does_105 (by decide) ?_
  refine J_il (pc := 106) dX11_does_106 (lay_step hi8) (rfl : (2 : Int32) = nI 2) ⟨by first | decide | omega, by decide⟩ ?_
  refine J_t1 (y := nI b) h2 ?_
  refine J_cvw (pc := 107) (N := mX11_cures) dX11_does_107 ml_X11_305 cf_X11_cures cv_X11_cures (r_X11_cures_t (S := S) (a := 535) (r := a) (p := b) rfl hH hW hM ha hb ⟨c.1, c.2.1, (mab_A hG hV ha hb).mpr c.2.2⟩) rfl rfl (Nat.le_of_ble_eq_true rfl) (by decide) (rv_of (ci := 11) rfl rfl rfl) ?_
  intro T
  exact J_iret (pc := 110) rfl rfl rfl dX11_does_110 (rqw hQ rfl (by rw [sA_AA S, sAA_put]; rfl))
theorem r_does4f {g : Gp} {S : Sx} {d : HD} {m i : Nat} {wv : Nat → Nat × Nat} (hG : HG S d) (hV : HV d) (hW : LawW m wv) (hM : LawM S m wv) (hi8 : i < 80) (hk : sa S (455 + i) 0 = 4) {a : Nat} (h1 : sa S (455 + i) 1 = nI a) (ha : a < dNs d) (c : sa S 535 (0 + a) = 1) : RW g mX11_does 9 [.ref 59, .ref 535, .ref (455 + i)] S (some (.int 0)) S := by
  refine RW_ofQ ⟨rfl, rfl⟩ (Nat.le_of_ble_eq_true rfl) (fun T sz Q hQ => ?_)
  have hH := HG_MH hG hV
  have h10 : dNr d ≤ 10 := hV.2.1
  have h88 : dNs d ≤ 8 := hV.1
  refine J_aload_n (pc := 0) dX11_does_0 rfl ?_
  refine J_iconst (pc := 1) (v := 1) dX11_does_1 (by decide) ?_
  refine J_il (pc := 2) dX11_does_2 (lay_step hi8) (rfl : (1 : Int32) = nI 1) ⟨by first | decide | omega, by decide⟩ ?_
  refine J_t1 (y := nI a) h1 ?_
  refine J_istore_n (pc := 3) dX11_does_3 (by decide) rfl ?_
  refine J_aload_n (pc := 4) dX11_does_4 rfl ?_
  refine J_iconst (pc := 5) (v := 0) dX11_does_5 (by decide) ?_
  refine J_il (pc := 6) dX11_does_6 (lay_step hi8) (rfl : (0 : Int32) = nI 0) ⟨by first | decide | omega, by decide⟩ ?_
  refine J_t1 (y := 4) hk ?_
  refine J_tableIn (pc := 7) (off := 104) (tgt := 111) dX11_does_7 (by decide) (by decide) (by decide) (by decide) ?_
  refine J_aload_n (pc := 111) dX11_does_111 rfl ?_
  refine J_iconst (pc := 112) (v := 0) dX11_does_112 (by decide) ?_
  refine J_iload_n (pc := 113) dX11_does_113 rfl ?_
  refine J_iadd (pc := 114) dX11_does_114 ?_
  refine J_il (pc := 115) dX11_does_115 (by first | rfl | assumption) (nI_add 0 a) ⟨by omega, by decide⟩ ?_
  refine J_iconst (pc := 116) (v := 1) dX11_does_116 (by decide) ?_
  refine J_icmp_ne (pc := 117) (tgt := 122) dX11_does_117 (by decide) (fun c117 => absurd c c117) (fun c117 => ?_)
  refine J_iconst (pc := 120) (v := 0) dX11_does_120 (by decide) ?_
  exact J_iret (pc := 121) rfl rfl rfl dX11_does_121 (rqw hQ rfl rfl)
theorem die_n {d : HD} {s i : Nat} {f : Row} (h : ¬ dOw d i = s) : upd (dieF d s i f) (16 + i) (f (16 + i)) = dieF d s (i + 1) f := by
  funext k
  by_cases e : k = 16 + i
  · subst e
    rw [pk_us]
    unfold dieF
    rw [if_neg (fun z => h (by have := z.2.2; rwa [show 16 + i - 16 = i by omega] at this))]
  · rw [pk_un e]
    unfold dieF
    by_cases q : 16 ≤ k ∧ k < 16 + i ∧ dOw d (k - 16) = s
    · rw [if_pos q, if_pos ⟨q.1, by omega, q.2.2⟩]
    · rw [if_neg q, if_neg (fun z => q ⟨z.1, by omega, z.2.2⟩)]
theorem die_s {d : HD} {s i : Nat} {f : Row} (h : dOw d i = s) : upd (dieF d s i f) (16 + i) (-1) = dieF d s (i + 1) f := by
  funext k
  by_cases e : k = 16 + i
  · subst e
    rw [pk_us]
    unfold dieF
    rw [if_pos ⟨by omega, by omega, by rw [show 16 + i - 16 = i by omega]; exact h⟩]
  · rw [pk_un e]
    unfold dieF
    by_cases q : 16 ≤ k ∧ k < 16 + i ∧ dOw d (k - 16) = s
    · rw [if_pos q, if_pos ⟨q.1, by omega, q.2.2⟩]
    · rw [if_neg q, if_neg (fun z => q ⟨z.1, by omega, z.2.2⟩)]
theorem die_0 {d : HD} {s : Nat} {f : Row} : dieF d s 0 f = f := by
  funext k
  unfold dieF
  rw [if_neg (by omega)]
theorem die_r {d : HD} {s i : Nat} {f : Row} : dieF d s i f (16 + i) = f (16 + i) := by
  unfold dieF
  rw [if_neg (by omega)]
theorem r_does4t {g : Gp} {S : Sx} {d : HD} {m i : Nat} {wv : Nat → Nat × Nat} (hG : HG S d) (hV : HV d) (hW : LawW m wv) (hM : LawM S m wv) (hi8 : i < 80) (hk : sa S (455 + i) 0 = 4) {a : Nat} (h1 : sa S (455 + i) 1 = nI a) (ha : a < dNs d) (c : ¬ sa S 535 (0 + a) = 1) : RW g mX11_does 9 [.ref 59, .ref 535, .ref (455 + i)] S (some (.int 1)) (sAA S 535 (rDie d a (sa S 535))) := by
  refine RW_ofQ ⟨rfl, rfl⟩ (Nat.le_of_ble_eq_true rfl) (fun T sz Q hQ => ?_)
  have h10 : dNr d ≤ 10 := hV.2.1
  have h88 : dNs d ≤ 8 := hV.1
  refine J_aload_n (pc := 0) dX11_does_0 rfl ?_
  refine J_iconst (pc := 1) (v := 1) dX11_does_1 (by decide) ?_
  refine J_il (pc := 2) dX11_does_2 (lay_step hi8) (rfl : (1 : Int32) = nI 1) ⟨by first | decide | omega, by decide⟩ ?_
  refine J_t1 (y := nI a) h1 ?_
  refine J_istore_n (pc := 3) dX11_does_3 (by decide) rfl ?_
  refine J_aload_n (pc := 4) dX11_does_4 rfl ?_
  refine J_iconst (pc := 5) (v := 0) dX11_does_5 (by decide) ?_
  refine J_il (pc := 6) dX11_does_6 (lay_step hi8) (rfl : (0 : Int32) = nI 0) ⟨by first | decide | omega, by decide⟩ ?_
  refine J_t1 (y := 4) hk ?_
  refine J_tableIn (pc := 7) (off := 104) (tgt := 111) dX11_does_7 (by decide) (by decide) (by decide) (by decide) ?_
  refine J_aload_n (pc := 111) dX11_does_111 rfl ?_
  refine J_iconst (pc := 112) (v := 0) dX11_does_112 (by decide) ?_
  refine J_iload_n (pc := 113) dX11_does_113 rfl ?_
  refine J_iadd (pc := 114) dX11_does_114 ?_
  refine J_il (pc := 115) dX11_does_115 (by first | rfl | assumption) (nI_add 0 a) ⟨by omega, by decide⟩ ?_
  refine J_iconst (pc := 116) (v := 1) dX11_does_116 (by decide) ?_
  refine J_icmp_ne (pc := 117) (tgt := 122) dX11_does_117 (by decide) (fun c117 => ?_) (fun c117 => absurd c117 c)
  refine J_iconst (pc := 122) (v := 0) dX11_does_122 (by decide) ?_
  refine J_istore (pc := 123) dX11_does_123 (by decide) rfl ?_
  refine J_cg2 (S' := w1 (sAA S 535 (dieF d a 0 (sa S 535))) T) (by rw [die_0, sAA_self]) ?_
  show J g mX11_does 9 [] 125 [some (.ref 59), some (.ref 535), some (.ref (455 + i)), some (.int (nI a)), some (.int (ix 0))] [] (hs (w1 (sAA S 535 (dieF d a 0 (sa S 535))) T)) sz 0 0 Q
  refine dn_ind (n := dNr d) (P := fun j => ∀ T, J g mX11_does 9 [] 125 [some (.ref 59), some (.ref 535), some (.ref (455 + i)), some (.int (nI a)), some (.int (ix j))] [] (hs (w1 (sAA S 535 (dieF d a j (sa S 535))) T)) sz 0 0 Q) ?_ (fun j hi ih => ?_) 0 (Nat.zero_le _) _
  · intro T
    refine J_iload (pc := 125) dX11_does_125 rfl ?_
    refine J_aload_n (pc := 127) dX11_does_127 rfl ?_
    refine J_getr (pc := 128) dX11_does_128 kc11 fl_X11_23 rfl ?_
    refine J_iconst (pc := 131) (v := 1) dX11_does_131 (by decide) ?_
    refine J_il (pc := 132) dX11_does_132 (by first | rfl | assumption) (rfl : (1 : Int32) = nI 1) ⟨by first | decide | omega, by decide⟩ ?_
    refine J_t1 (y := nI (dNr d)) hG.2.1 ?_
    refine J_icmp_ge (pc := 133) (tgt := 173) dX11_does_133 (by decide) (fun c133 => ?_) (fun c133 => absurd (ix_ge rfl) c133)
    refine J_aload_n (pc := 173) dX11_does_173 rfl ?_
    refine J_iconst (pc := 174) (v := 0) dX11_does_174 (by decide) ?_
    refine J_iload_n (pc := 175) dX11_does_175 rfl ?_
    refine J_iadd (pc := 176) dX11_does_176 ?_
    refine J_iconst (pc := 177) (v := 1) dX11_does_177 (by decide) ?_
    refine J_isw (pc := 178) dX11_does_178 (by first | rfl | assumption) (nI_add 0 a) ⟨by omega, by decide⟩ ?_
    refine J_iconst (pc := 179) (v := 1) dX11_does_179 (by decide) ?_
    exact J_iret (pc := 180) rfl rfl rfl dX11_does_180 (rqw hQ rfl (by rw [sAA_put]; rfl))
  · intro T
    refine J_iload (pc := 125) dX11_does_125 rfl ?_
    refine J_aload_n (pc := 127) dX11_does_127 rfl ?_
    refine J_getr (pc := 128) dX11_does_128 kc11 fl_X11_23 rfl ?_
    refine J_iconst (pc := 131) (v := 1) dX11_does_131 (by decide) ?_
    refine J_il (pc := 132) dX11_does_132 (by first | rfl | assumption) (rfl : (1 : Int32) = nI 1) ⟨by first | decide | omega, by decide⟩ ?_
    refine J_t1 (y := nI (dNr d)) hG.2.1 ?_
    refine J_icmp_ge (pc := 133) (tgt := 173) dX11_does_133 (by decide) (fun c133 => absurd c133 (ix_lt rfl hi (by omega))) (fun c133 => ?_)
    refine J_aload_n (pc := 136) dX11_does_136 rfl ?_
    refine J_bipush (pc := 137) (v := 16) dX11_does_137 (by decide) ?_
    refine J_iload (pc := 139) dX11_does_139 rfl ?_
    refine J_iadd (pc := 141) dX11_does_141 ?_
    refine J_aload_n (pc := 142) dX11_does_142 rfl ?_
    refine J_getr (pc := 143) dX11_does_143 kc11 fl_X11_43 rfl ?_
    refine J_iload (pc := 146) dX11_does_146 rfl ?_
    refine J_ar1 (pc := 148) dX11_does_148 rfl (ix_nI j) ⟨by omega, by decide⟩ ?_
    refine J_iconst (pc := 149) (v := 0) dX11_does_149 (by decide) ?_
    refine J_il (pc := 150) dX11_does_150 (lay_relic (by omega)) (rfl : (0 : Int32) = nI 0) ⟨by first | decide | omega, by decide⟩ ?_
    refine J_t1 (y := nI (dOw d j)) ((congrFun (sAA_o (show 80 + j ≠ 535 by omega)) 0).trans (hG.2.2.2.2.2.1 j hi).1) ?_
    refine J_iload_n (pc := 151) dX11_does_151 rfl ?_
    refine J_icmp_ne (pc := 152) (tgt := 159) dX11_does_152 (by decide) (fun cD => ?_) (fun cD => ?_)
    · refine J_aload_n (pc := 159) dX11_does_159 rfl ?_
      refine J_bipush (pc := 160) (v := 16) dX11_does_160 (by decide) ?_
      refine J_iload (pc := 162) dX11_does_162 rfl ?_
      refine J_iadd (pc := 164) dX11_does_164 ?_
      refine J_il (pc := 165) dX11_does_165 (by first | rfl | assumption) (by rw [ix_nI]; exact nI_add 16 j) ⟨by omega, by decide⟩ ?_
      refine J_t1 (y := sa S 535 (16 + j)) ((congrFun (sAA_s S 535 _) (16 + j)).trans die_r) ?_
      refine J_isw (pc := 166) (v := sa S 535 (16 + j)) dX11_does_166 rfl (by rw [ix_nI]; exact nI_add 16 j) ⟨by omega, by decide⟩ ?_
      refine J_iinc (pc := 167) (v := 1) dX11_does_167 rfl (by decide) rfl ?_
      refine J_goto (pc := 170) (tgt := 125) dX11_does_170 (by decide) ?_
      refine J_cg2 (S' := w1 (sAA S 535 (dieF d a (j + 1) (sa S 535))) T) (by rw [sAA_put]; exact congrArg (fun z => w1 (sAA S 535 z) T) (die_n (fun z => cD (by rw [z])))) ?_
      exact ih T
    · refine J_iconst (pc := 155) (v := -1) dX11_does_155 (by decide) ?_
      refine J_goto (pc := 156) (tgt := 166) dX11_does_156 (by decide) ?_
      refine J_isw (pc := 166) (v := (-1 : Int32)) dX11_does_166 rfl (by rw [ix_nI]; exact nI_add 16 j) ⟨by omega, by decide⟩ ?_
      refine J_iinc (pc := 167) (v := 1) dX11_does_167 rfl (by decide) rfl ?_
      refine J_goto (pc := 170) (tgt := 125) dX11_does_170 (by decide) ?_
      refine J_cg2 (S' := w1 (sAA S 535 (dieF d a (j + 1) (sa S 535))) T) (by rw [sAA_put]; exact congrArg (fun z => w1 (sAA S 535 z) T) (die_s ((nI_eq (by have : dOw d j < dNs d := (hV.2.2.2.2.2.1 j hi).1; omega) (by omega)).mp cD))) ?_
      exact ih T
theorem r_does5f {g : Gp} {S : Sx} {d : HD} {m i : Nat} {wv : Nat → Nat × Nat} (hG : HG S d) (hV : HV d) (hW : LawW m wv) (hM : LawM S m wv) (hi8 : i < 80) (hk : sa S (455 + i) 0 = 5) (c : 500 ≤ sa S 535 44) : RW g mX11_does 9 [.ref 59, .ref 535, .ref (455 + i)] S (some (.int 0)) S := by
  refine RW_ofQ ⟨rfl, rfl⟩ (Nat.le_of_ble_eq_true rfl) (fun T sz Q hQ => ?_)
  have hH := HG_MH hG hV
  have h10 : dNr d ≤ 10 := hV.2.1
  have h88 : dNs d ≤ 8 := hV.1
  refine J_aload_n (pc := 0) dX11_does_0 rfl ?_
  refine J_iconst (pc := 1) (v := 1) dX11_does_1 (by decide) ?_
  refine J_il (pc := 2) dX11_does_2 (lay_step hi8) (rfl : (1 : Int32) = nI 1) ⟨by first | decide | omega, by decide⟩ ?_
  refine J_istore_n (pc := 3) dX11_does_3 (by decide) rfl ?_
  refine J_aload_n (pc := 4) dX11_does_4 rfl ?_
  refine J_iconst (pc := 5) (v := 0) dX11_does_5 (by decide) ?_
  refine J_il (pc := 6) dX11_does_6 (lay_step hi8) (rfl : (0 : Int32) = nI 0) ⟨by first | decide | omega, by decide⟩ ?_
  refine J_t1 (y := 5) hk ?_
  refine J_tableOut (pc := 7) (tgt := 181) dX11_does_7 (by decide) (by decide) ?_
  refine J_aload_n (pc := 181) dX11_does_181 rfl ?_
  refine J_bipush (pc := 182) (v := 44) dX11_does_182 (by decide) ?_
  refine J_il (pc := 184) dX11_does_184 (by first | rfl | assumption) (rfl : (44 : Int32) = nI 44) ⟨by first | decide | omega, by decide⟩ ?_
  refine J_sipush (pc := 185) (v := 500) dX11_does_185 (by decide) ?_
  refine J_icmp_lt (pc := 188) (tgt := 193) dX11_does_188 (by decide) (fun c188 => absurd c188 (Int32.not_lt.mpr c)) (fun c188 => ?_)
  refine J_iconst (pc := 191) (v := 0) dX11_does_191 (by decide) ?_
  exact J_iret (pc := 192) rfl rfl rfl dX11_does_192 (rqw hQ rfl rfl)
theorem r_does5t {g : Gp} {S : Sx} {d : HD} {m i : Nat} {wv : Nat → Nat × Nat} (hG : HG S d) (hV : HV d) (hW : LawW m wv) (hM : LawM S m wv) (hi8 : i < 80) (hk : sa S (455 + i) 0 = 5) (c : ¬ 500 ≤ sa S 535 44) : RW g mX11_does 9 [.ref 59, .ref 535, .ref (455 + i)] S (some (.int 1)) (sAA S 535 (rDay (dNr d) (sa S 535))) := by
  refine RW_ofQ ⟨rfl, rfl⟩ (Nat.le_of_ble_eq_true rfl) (fun T sz Q hQ => ?_)
  have hH := HG_MH hG hV
  have h10 : dNr d ≤ 10 := hV.2.1
  have h88 : dNs d ≤ 8 := hV.1
  refine J_aload_n (pc := 0) dX11_does_0 rfl ?_
  refine J_iconst (pc := 1) (v := 1) dX11_does_1 (by decide) ?_
  refine J_il (pc := 2) dX11_does_2 (lay_step hi8) (rfl : (1 : Int32) = nI 1) ⟨by first | decide | omega, by decide⟩ ?_
  refine J_istore_n (pc := 3) dX11_does_3 (by decide) rfl ?_
  refine J_aload_n (pc := 4) dX11_does_4 rfl ?_
  refine J_iconst (pc := 5) (v := 0) dX11_does_5 (by decide) ?_
  refine J_il (pc := 6) dX11_does_6 (lay_step hi8) (rfl : (0 : Int32) = nI 0) ⟨by first | decide | omega, by decide⟩ ?_
  refine J_t1 (y := 5) hk ?_
  refine J_tableOut (pc := 7) (tgt := 181) dX11_does_7 (by decide) (by decide) ?_
  refine J_aload_n (pc := 181) dX11_does_181 rfl ?_
  refine J_bipush (pc := 182) (v := 44) dX11_does_182 (by decide) ?_
  refine J_il (pc := 184) dX11_does_184 (by first | rfl | assumption) (rfl : (44 : Int32) = nI 44) ⟨by first | decide | omega, by decide⟩ ?_
  refine J_sipush (pc := 185) (v := 500) dX11_does_185 (by decide) ?_
  refine J_icmp_lt (pc := 188) (tgt := 193) dX11_does_188 (by decide) (fun c188 => ?_) (fun c188 => absurd (Int32.not_le.mp c) c188)
  refine J_aload_n (pc := 193) dX11_does_193 rfl ?_
  refine J_aload_n (pc := 194) dX11_does_194 rfl ?_
  refine J_cvv (pc := 195) (N := mX11_dayEnds) dX11_does_195 ml_X11_308 cf_X11_dayEnds cv_X11_dayEnds (r_X11_dayEnds (S := w1 S T) (a := 535) rfl (show MH (w1 S T) _ _ _ _ from hH)) rfl rfl (Nat.le_of_ble_eq_true rfl) (by decide) (rv_of (ci := 11) rfl rfl rfl) ?_
  refine J_cg2 (dyE_w1 S T 535 (dNr d)) ?_
  refine J_cg2 (congrArg (fun z => w1 z T) (dyE_A S 535 h10)) ?_
  refine J_iconst (pc := 198) (v := 1) dX11_does_198 (by decide) ?_
  exact J_iret (pc := 199) rfl rfl rfl dX11_does_199 (rqw hQ rfl rfl)
theorem r_X11_does {g : Gp} {S : Sx} {d : HD} {m i : Nat} {wv : Nat → Nat × Nat} (hG : HG S d) (hV : HV d) (hW : LawW m wv) (hM : LawM S m wv) (hi8 : i < 80) {q : Q4} (hq : STQ S i q) (ho : okq d q) (h6 : q.1 ≠ 6) : RW g mX11_does 9 [.ref 59, .ref 535, .ref (455 + i)] S (some (.int (bI (doA d m wv (sa S 535) q).2))) (sAA S 535 (doA d m wv (sa S 535) q).1) := by
  obtain ⟨k, a, b, e⟩ := q
  obtain ⟨q0, q1, q2, q3⟩ := hq
  obtain ⟨o0, o1, o2, o3, o4⟩ := ho
  dsimp only at *
  match k, o0, h6 with
  | 0, _, _ =>
    have h1 := q1 (by decide)
    have ha := o1 (Or.inl rfl)
    by_cases c : sa S 535 (16 + a) ≠ -1 ∨ sa S 535 (0 + dOw d a) = 1
    · rw [show doA d m wv (sa S 535) (0, a, b, e) = (sa S 535, false) from if_pos c, sAA_self]
      exact r_does0f hG hV hW hM hi8 q0 h1 ha c
    · rw [show doA d m wv (sa S 535) (0, a, b, e) = (upd (sa S 535) (16 + a) 0, true) from if_neg c]
      exact r_does0t hG hV hW hM hi8 q0 h1 ha c
  | 1, _, _ =>
    have h1 := q1 (by decide)
    have ha := o1 (Or.inr (Or.inl rfl))
    by_cases c : sa S 535 (16 + a) ≠ -1
    · rw [show doA d m wv (sa S 535) (1, a, b, e) = (upd (sa S 535) (16 + a) (-1), true) from if_pos c]
      exact r_does1t hG hV hW hM hi8 q0 h1 ha c
    · rw [show doA d m wv (sa S 535) (1, a, b, e) = (sa S 535, false) from if_neg c, sAA_self]
      exact r_does1f hG hV hW hM hi8 q0 h1 ha c
  | 2, _, _ =>
    have h1 := q1 (by decide)
    have ha := o2 (Or.inl rfl)
    by_cases c : sa S 535 (0 + a) = 0 ∧ kM d (sa S 535) a ≠ 0
    · rw [show doA d m wv (sa S 535) (2, a, b, e) = (rLap d a (sa S 535), true) from if_pos c]
      exact r_does2t hG hV hW hM hi8 q0 h1 ha c
    · rw [show doA d m wv (sa S 535) (2, a, b, e) = (sa S 535, false) from if_neg c, sAA_self]
      exact r_does2f hG hV hW hM hi8 q0 h1 ha c
  | 3, _, _ =>
    have h1 := q1 (by decide)
    have ha := o1 (Or.inr (Or.inr rfl))
    have hb := o3 rfl
    by_cases c : sa S 535 (36 + b) = -1 ∧ sa S 535 (26 + a) = 0 ∧ dIl d a = dPi d b ∧ nI (dPn d b) ≤ pwN d m wv (sa S 535) a
    · rw [show doA d m wv (sa S 535) (3, a, b, e) = (rCur a b (sa S 535), true) from if_pos c]
      exact r_does3t hG hV hW hM hi8 q0 h1 (q2 rfl) ha hb c
    · rw [show doA d m wv (sa S 535) (3, a, b, e) = (sa S 535, false) from if_neg c, sAA_self]
      exact r_does3f hG hV hW hM hi8 q0 h1 (q2 rfl) ha hb c
  | 4, _, _ =>
    have h1 := q1 (by decide)
    have ha := o2 (Or.inr rfl)
    by_cases c : sa S 535 (0 + a) = 1
    · rw [show doA d m wv (sa S 535) (4, a, b, e) = (sa S 535, false) from if_pos c, sAA_self]
      exact r_does4f hG hV hW hM hi8 q0 h1 ha c
    · rw [show doA d m wv (sa S 535) (4, a, b, e) = (rDie d a (sa S 535), true) from if_neg c]
      exact r_does4t hG hV hW hM hi8 q0 h1 ha c
  | 5, _, _ =>
    by_cases c : 500 ≤ sa S 535 44
    · rw [show doA d m wv (sa S 535) (5, a, b, e) = (sa S 535, false) from if_pos c, sAA_self]
      exact r_does5f hG hV hW hM hi8 q0 c
    · rw [show doA d m wv (sa S 535) (5, a, b, e) = (rDay (dNr d) (sa S 535), true) from if_neg c]
      exact r_does5t hG hV hW hM hi8 q0 c
  | 6, _, h6 => exact absurd rfl h6
  | k + 7, o0, _ => omega

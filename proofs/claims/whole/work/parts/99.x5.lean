/-! ===== years, told twice ===== -/
def cnb (P : Nat → Bool) : Nat → Nat
  | 0 => 0
  | n + 1 => cnb P n + (if P n = true then 1 else 0)
theorem cnb_le {P : Nat → Bool} : ∀ n, cnb P n ≤ n
  | 0 => Nat.le_refl _
  | n + 1 => by
    have := cnb_le (P := P) n
    show cnb P n + (if P n = true then 1 else 0) ≤ n + 1
    split <;> omega
theorem cnb_cg {P Q : Nat → Bool} : ∀ {n : Nat}, (∀ k, k < n → P k = Q k) → cnb P n = cnb Q n
  | 0, _ => rfl
  | n + 1, h => by
    show cnb P n + (if P n = true then 1 else 0) = cnb Q n + (if Q n = true then 1 else 0)
    rw [cnb_cg (fun k hk => h k (by omega)), h n (by omega)]
theorem cnb_1 {P Q : Nat → Bool} {j : Nat} (h1 : P j = false) (h2 : Q j = true) (h : ∀ k, k ≠ j → Q k = P k) : ∀ {n : Nat}, j < n → cnb Q n = cnb P n + 1
  | 0, hj => absurd hj (by omega)
  | n + 1, hj => by
    show cnb Q n + (if Q n = true then 1 else 0) = cnb P n + (if P n = true then 1 else 0) + 1
    by_cases e : n = j
    · subst e
      rw [cnb_cg (P := Q) (Q := P) (fun k hk => h k (by omega)), if_pos h2, if_neg (by rw [h1]; decide)]
    · rw [cnb_1 h1 h2 h (show j < n by omega), h n e]
      omega
theorem sm_bt {x : Int32} : ∀ n, n ≤ 32 → sm (fun k => x >>> (ix k &&& 31) &&& 1) n = nI (cnb (bt x) n)
  | 0, _ => rfl
  | n + 1, h => by
    show sm (fun k => x >>> (ix k &&& 31) &&& 1) n + (x >>> (ix n &&& 31) &&& 1) = nI (cnb (bt x) n + (if bt x n = true then 1 else 0))
    rw [sm_bt n (by omega), ix_nI, bt_t x (by omega)]
    split
    · exact nI_1 _
    · exact Int32.add_zero _
theorem cnb_msk {P : Nat → Bool} {n : Nat} (hn : n ≤ 10) : cnb (bt (msk P n)) 10 = cnb P n := by
  have h : ∀ k, n ≤ k → k ≤ 10 → cnb (bt (msk P n)) k = cnb P n := by
    intro k h1
    induction k with
    | zero => intro _; obtain rfl : n = 0 := by omega
              rfl
    | succ k ih =>
      intro h2
      by_cases e : n = k + 1
      · subst e
        exact cnb_cg (fun j hj => by rw [bt_msk P _ (by omega), decide_eq_true hj, Bool.true_and])
      · show cnb (bt (msk P n)) k + (if bt (msk P n) k = true then 1 else 0) = _
        rw [ih (by omega) (by omega), bt_msk P _ (by omega), decide_eq_false (by omega), Bool.false_and]
        rfl
  exact h 10 hn (Nat.le_refl _)
theorem on_cn {P : Nat → Bool} {n : Nat} (hn : n ≤ 10) : on1 (msk P n) 10 = nI (cnb P n) := by
  unfold on1
  rw [sm_bt 10 (by decide), cnb_msk hn]
/-- how many are cured -/
def cq (d : HD) (f : Row) : Nat := cnb (fun p => decide (f (36 + p) ≠ -1)) (dNp d)
section YRE
variable {S X : Sx} {d : HD} {m : Nat} {wv : Nat → Nat × Nat} {z : YS} {f f' : Row}
def YR (S : Sx) (X : Sx) (z : YS) : Prop := off3 S X ∧ (∀ k, k < 45 → sa X 536 k = z.1 k) ∧ sf X 59 47 = z.2.1 ∧ sf X 59 48 = z.2.2.1
theorem HG_3 (hG : HG S d) (hv : HV d) (h : off3 S X) : HG X d := HG_cg hG hv (fun a ha => h.2.2.1 a (scB_sc (hgR_sc ha)))
theorem kM_cg (hv : HV d) (h : ∀ k, k < 45 → f' k = f k) (s : Nat) : kM d f' s = kM d f s := by
  have h10 : dNr d ≤ 10 := hv.2.1
  exact msk_congr (fun i hi => by rw [h (16 + i) (by omega)])
theorem pwN_cg (hv : HV d) (h : ∀ k, k < 45 → f' k = f k) {r : Nat} (hr : r < dNr d) : pwN d m wv f' r = pwN d m wv f r := by
  have h10 : dNr d ≤ 10 := hv.2.1
  have h8 : dNs d ≤ 8 := hv.1
  have ho : dOw d r < dNs d := (hv.2.2.2.2.2.1 r hr).1
  unfold pwN pwA
  rw [h (16 + r) (by omega), h (8 + dOw d r) (by omega), h 44 (by decide), kM_cg hv h]
theorem upd_cg {j k : Nat} {v v' : Int32} (h : ∀ k, k < 45 → f' k = f k) (hv : v' = v) (hk : k < 45) : upd f' j v' k = upd f j v k := by
  unfold upd
  rw [hv]
  by_cases e : k = j
  · rw [if_pos e, if_pos e]
  · rw [if_neg e, if_neg e, h k hk]
theorem rLap_cg (h : ∀ k, k < 45 → f' k = f k) {s : Nat} (hs : s < 8) : ∀ k, k < 45 → rLap d s f' k = rLap d s f k := fun k hk => upd_cg (fun k hk => by unfold lapF; rw [h k hk]) (by rw [h (8 + s) (by omega)]) hk
theorem rDay_cg (h : ∀ k, k < 45 → f' k = f k) {nr : Nat} : ∀ k, k < 45 → rDay nr f' k = rDay nr f k := fun k hk => upd_cg (fun k hk => by unfold dayF; rw [h k hk]) (by rw [h 44 (by decide)]) hk
theorem rCur_cg (h : ∀ k, k < 45 → f' k = f k) {r p : Nat} : ∀ k, k < 45 → rCur r p f' k = rCur r p f k := fun k hk => upd_cg (fun k hk => upd_cg h rfl hk) rfl hk
theorem dr_47 (X : Sx) : sf (drS X) 59 47 = nx (sf X 59 47) := sF_s
theorem dr_48 (X : Sx) : sf (drS X) 59 48 = sf X 59 48 := sf_o (by decide)
theorem sf_AA (X : Sx) (a : Nat) (f : Row) : sf (sAA X a f) = sf X := rfl
theorem sa_F (X : Sx) (a k : Nat) (v : Int32) : sa (sF X a k v) = sa X := rfl
theorem sa_dr (X : Sx) : sa (drS X) = sa X := by unfold drS; exact sa_F _ _ _ _
theorem YR_up {a : Row} {b : Int32} {t : Int32 × Int32} : YR S X (a, b, t) ↔ (off3 S X ∧ (∀ k, k < 45 → sa X 536 k = a k) ∧ sf X 59 47 = b ∧ sf X 59 48 = t.1) := Iff.rfl
theorem YR_r (h : YR S X z) : YR S (drS X) (z.1, nx z.2.1, z.2.2) := YR_up.mpr ⟨off3_dr h.1, fun k hk => by rw [sa_dr]; exact h.2.1 k hk, by rw [dr_47, h.2.2.1], by rw [dr_48, h.2.2.2]⟩
theorem YR_r2 (h : YR S X z) {b : Int32} : YR S (drS (drS X)) (z.1, nx (nx z.2.1), z.2.2.1, b) := YR_up.mpr ⟨off3_dr (off3_dr h.1), fun k hk => by rw [sa_dr, sa_dr]; exact h.2.1 k hk, by rw [dr_47, dr_47, h.2.2.1], by rw [dr_48, dr_48, h.2.2.2]⟩
theorem drN_e (X : Sx) (n : Nat) : drN X n = drA (nx (sf X 59 47)) n := by
  unfold drN drA
  rw [dr_47]
theorem YR_l (hG : HG S d) (hv : HV d) (h : YR S X z) {s : Nat} (hs : s < dNs d) : YR S (ylS X (dNr d) s) (yl1 d s z) := by
  have h8 : dNs d ≤ 8 := hv.1
  have hGX := HG_3 hG hv h.1
  have ho := off3_yl h.1 (dNr d) s
  unfold ylS at ho ⊢
  unfold yl1
  rw [mko_A hGX hv (by omega), h.2.1 (0 + s) (by omega), kM_cg hv h.2.1, drN_e X, h.2.2.1, show sa X 65 s = nI (dTm d s) from hGX.2.2.2.1 s hs] at ho ⊢
  by_cases c : z.1 (0 + s) = 0 ∧ kM d z.1 s ≠ 0
  · rw [if_pos c] at ho ⊢
    rw [if_pos c]
    by_cases c2 : nI (dTm d s) ≤ nI (drA (nx z.2.1) 16)
    · rw [if_pos c2]
      rw [if_pos c2]
      exact YR_r h
    · rw [if_neg c2] at ho ⊢
      rw [if_neg c2]
      have hGd : HG (drS X) d := HG_3 hG hv (off3_dr h.1)
      rw [lpE_A hGd hv (by decide) hs] at ho ⊢
      refine YR_up.mpr ⟨ho, fun k hk => ?_, ?_, ?_⟩
      · rw [sa_F, sAA_s, sa_dr]
        exact rLap_cg (fun k hk => h.2.1 k hk) (by omega) k hk
      · rw [sf_o (by decide), sf_AA, dr_47, h.2.2.1]
      · rw [sF_s, h.2.2.2]
  · rw [if_neg c]
    rw [if_neg c]
    exact h
theorem YR_ln (hG : HG S d) (hv : HV d) (h : YR S X z) : ∀ s, s ≤ dNs d → YR S (ylN X (dNr d) s) (ylA d s z)
  | 0, _ => h
  | s + 1, hs => YR_l hG hv (YR_ln hG hv h s (by omega)) (by omega)
theorem do3 {r p : Nat} : doA d m wv f (3, r, p, 0) = if f (36 + p) = -1 ∧ f (26 + r) = 0 ∧ dIl d r = dPi d p ∧ nI (dPn d p) ≤ pwN d m wv f r then (rCur r p f, true) else (f, false) := rfl
theorem YR_c (hG : HG S d) (hv : HV d) (h : YR S X z) : YR S (ycS X (dNr d) (dNp d) (dOw d) m wv) (ycA d m wv z) := by
  have h10 : dNr d ≤ 10 := hv.2.1
  have h8 : dNp d ≤ 8 := hv.2.2.1
  have ho := off3_yc h.1 (dNr d) (dNp d) (dOw d) m wv
  unfold ycS at ho ⊢
  unfold ycA ycq
  by_cases c : 0 < dNr d ∧ 0 < dNp d
  · rw [if_pos c] at ho ⊢
    rw [if_pos c]
    have h2 := YR_up.mp (YR_r2 h (b := 0))
    have hGd : HG (drS (drS X)) d := HG_3 hG hv h2.1
    have e1 : drN X (dNr d) = drA (nx z.2.1) (dNr d) := by rw [drN_e, h.2.2.1]
    have e2 : drN (drS X) (dNp d) = drA (nx (nx z.2.1)) (dNp d) := by rw [drN_e, dr_47, h.2.2.1]
    rw [e1, e2] at ho ⊢
    have l1 : drA (nx z.2.1) (dNr d) < dNr d := drA_lt c.1
    have l2 : drA (nx (nx z.2.1)) (dNp d) < dNp d := drA_lt c.2
    generalize drA (nx z.2.1) (dNr d) = r at l1 ho ⊢
    generalize drA (nx (nx z.2.1)) (dNp d) = p at l2 ho ⊢
    have hi : mcC (drS (drS X)) (dNr d) (dOw d) m wv r p ↔ (z.1 (36 + p) = -1 ∧ z.1 (26 + r) = 0 ∧ dIl d r = dPi d p ∧ nI (dPn d p) ≤ pwN d m wv z.1 r) := by
      unfold mcC
      rw [mab_A hGd hv l1 l2, h2.2.1 (36 + p) (by omega), h2.2.1 (26 + r) (by omega)]
      unfold abA
      rw [pwN_cg hv h2.2.1 l1]
    rw [do3]
    by_cases c2 : z.1 (36 + p) = -1 ∧ z.1 (26 + r) = 0 ∧ dIl d r = dPi d p ∧ nI (dPn d p) ≤ pwN d m wv z.1 r
    · rw [if_pos (hi.mpr c2)] at ho ⊢
      rw [if_pos c2]
      refine YR_up.mpr ⟨ho, fun k hk => ?_, h2.2.2.1, h2.2.2.2⟩
      unfold cuS
      rw [show sA (sA (drS (drS X)) 536 (36 + p) (nI r)) 536 (26 + r) 1 = sAA (drS (drS X)) 536 (rCur r p (sa (drS (drS X)) 536)) from by rw [sA_AA, sA_AA, sAA_s, sAA_sAA]; rfl, sAA_s]
      exact rCur_cg h2.2.1 k hk
    · rw [if_neg (fun w => c2 (hi.mp w))] at ho ⊢
      rw [if_neg c2]
      exact YR_r2 h
  · rw [if_neg c]
    rw [if_neg c]
    exact h
theorem YR_d (hG : HG S d) (hv : HV d) (h : YR S X z) : YR S (ydS X (dNs d) (dNr d) (dNp d) (dOw d) m wv) (ydA d m wv z) := by
  have h2 := YR_c (m := m) (wv := wv) hG hv (YR_ln hG hv h (dNs d) (Nat.le_refl _))
  unfold ydS ydA
  have ho := off3_dy h2.1 (dNr d)
  rw [dyE_A _ _ hv.2.1] at ho ⊢
  refine YR_up.mpr ⟨ho, fun k hk => ?_, h2.2.2.1, h2.2.2.2⟩
  rw [sAA_s]
  exact rDay_cg h2.2.1 k hk
theorem YR_n (hG : HG S d) (hv : HV d) (h : YR S X z) : ∀ k, YR S (yrN X (dNs d) (dNr d) (dNp d) (dOw d) m wv k) (yA d m wv k z)
  | 0 => h
  | k + 1 => YR_d hG hv (YR_n hG hv h k)
theorem YR_0 (h : off3 S X) (x : Int32) : YR S (yr0 X x) (sa S 535, x, 0, 0) := by
  refine ⟨off3_y0 h x, fun k hk => ?_, ?_, sF_s⟩
  · show sa (cpS X 535 536 45) 536 k = sa S 535 k
    rw [cpS_s X (by decide) 45 k, if_pos hk, h.2.2.1 535 rfl]
  · show sf (sF (sF (cpS X 535 536 45) 59 47 x) 59 48 0) 59 47 = x
    rw [sf_o (by decide), sF_s]
theorem YR_X (hG : HG S d) (hv : HV d) (h : off3 S X) (x : Int32) (days : Nat) : YR S (yrX X x days (dNs d) (dNr d) (dNp d) (dOw d) m wv) (yA d m wv days (sa S 535, x, 0, 0)) := YR_n hG hv (YR_0 h x) days
/-- the cured are those before and those of the year -/
def YQ (d : HD) (f : Row) (z : YS) : Prop := ∃ c, z.2.2.2 = nI c ∧ cq d z.1 = cq d f + c
theorem cq_cg (h : ∀ k, 36 ≤ k → k < 44 → f' k = f k) (hv : HV d) : cq d f' = cq d f := by
  have h8 : dNp d ≤ 8 := hv.2.2.1
  exact cnb_cg (fun k hk => by rw [h (36 + k) (by omega) (by omega)])
theorem YQ_up {a : Row} {b : Int32} {t : Int32 × Int32} : YQ d f (a, b, t) ↔ ∃ c, t.2 = nI c ∧ cq d a = cq d f + c := Iff.rfl
theorem YQ_l (hv : HV d) (h : YQ d f z) {s : Nat} (hs : s < dNs d) : YQ d f (yl1 d s z) := by
  have h8 : dNs d ≤ 8 := hv.1
  have h10 : dNr d ≤ 10 := hv.2.1
  obtain ⟨c, h1, h2⟩ := h
  unfold yl1
  by_cases c1 : z.1 (0 + s) = 0 ∧ kM d z.1 s ≠ 0
  · rw [if_pos c1]
    by_cases c2 : nI (dTm d s) ≤ nI (drA (nx z.2.1) 16)
    · rw [if_pos c2]
      exact YQ_up.mpr ⟨c, h1, h2⟩
    · rw [if_neg c2]
      refine YQ_up.mpr ⟨c, h1, (cq_cg (fun k k1 k2 => ?_) hv).trans h2⟩
      show upd (lapF d s (dNr d) z.1) (8 + s) _ k = z.1 k
      rw [pk_un (by omega)]
      unfold lapF
      rw [if_neg (by omega)]
  · rw [if_neg c1]
    exact ⟨c, h1, h2⟩
theorem YQ_ln (hv : HV d) (h : YQ d f z) : ∀ s, s ≤ dNs d → YQ d f (ylA d s z)
  | 0, _ => h
  | s + 1, hs => YQ_l hv (YQ_ln hv h s (by omega)) (by omega)
theorem YQ_c (hv : HV d) (h : YQ d f z) : YQ d f (ycA d m wv z) := by
  have h8 : dNp d ≤ 8 := hv.2.2.1
  have h10 : dNr d ≤ 10 := hv.2.1
  unfold ycA ycq
  by_cases c : 0 < dNr d ∧ 0 < dNp d
  · rw [if_pos c]
    have l1 : drA (nx z.2.1) (dNr d) < dNr d := drA_lt c.1
    have l2 : drA (nx (nx z.2.1)) (dNp d) < dNp d := drA_lt c.2
    generalize drA (nx z.2.1) (dNr d) = r at l1 ⊢
    generalize drA (nx (nx z.2.1)) (dNp d) = p at l2 ⊢
    rw [do3]
    obtain ⟨n, h1, h2⟩ := h
    by_cases c2 : z.1 (36 + p) = -1 ∧ z.1 (26 + r) = 0 ∧ dIl d r = dPi d p ∧ nI (dPn d p) ≤ pwN d m wv z.1 r
    · rw [if_pos c2]
      refine YQ_up.mpr ⟨n + 1, ?_, ?_⟩
      · show z.2.2.2 + 1 = nI (n + 1)
        rw [h1, nI_1]
      · show cq d (rCur r p z.1) = cq d f + (n + 1)
        have : cq d (rCur r p z.1) = cq d z.1 + 1 := by
          refine cnb_1 (j := p) (decide_eq_false (fun w => w c2.1)) (decide_eq_true ?_) (fun k hk => decide_eq_decide.mpr ?_) l2
          · show upd (upd z.1 (36 + p) (nI r)) (26 + r) 1 (36 + p) ≠ -1
            rw [pk_un (by omega), pk_us]
            exact nI_nm (by omega)
          · show upd (upd z.1 (36 + p) (nI r)) (26 + r) 1 (36 + k) ≠ -1 ↔ _
            rw [pk_un (by omega), pk_un (by omega)]
        omega
    · rw [if_neg c2]
      exact YQ_up.mpr ⟨n, (Int32.add_zero _).trans h1, h2⟩
  · rw [if_neg c]
    exact h
theorem YQ_n (hv : HV d) (h : YQ d f z) : ∀ k, YQ d f (yA d m wv k z)
  | 0 => h
  | k + 1 => by
    have h10 : dNr d ≤ 10 := hv.2.1
    obtain ⟨c, h1, h2⟩ := YQ_c (m := m) (wv := wv) hv (YQ_ln hv (YQ_n hv h k) (dNs d) (Nat.le_refl _))
    refine YQ_up.mpr ⟨c, h1, (cq_cg (fun j k1 k2 => ?_) hv).trans h2⟩
    show upd (dayF (dNr d) _) 44 _ j = _
    rw [pk_un (by omega)]
    unfold dayF
    rw [if_neg (by omega), if_neg (by omega)]
theorem YQ_0 (x : Int32) : YQ d f (f, x, 0, 0) := ⟨0, rfl, rfl⟩
theorem mcu_c (hv : HV d) (a : Nat) (h : ∀ k, k < 45 → sa X a k = f k) : mcu X a (dNp d) = msk (fun p => decide (f (36 + p) ≠ -1)) (dNp d) := by
  have h8 : dNp d ≤ 8 := hv.2.2.1
  exact msk_congr (fun p hp => by rw [h (36 + p) (by omega)])
theorem more_e (hv : HV d) (h : off3 S X) (hX : ∀ k, k < 45 → sa X 536 k = z.1 k) (hq : YQ d (sa S 535) z) : on1 (mcu X 536 (dNp d)) 10 - on1 (mcu X 535 (dNp d)) 10 = z.2.2.2 ∧ ∃ c, c ≤ 8 ∧ z.2.2.2 = nI c := by
  have h8 : dNp d ≤ 8 := hv.2.2.1
  obtain ⟨c, h1, h2⟩ := hq
  have e1 : on1 (mcu X 536 (dNp d)) 10 = nI (cq d z.1) := by rw [mcu_c hv 536 hX]; exact on_cn (by omega)
  have e2 : on1 (mcu X 535 (dNp d)) 10 = nI (cq d (sa S 535)) := by rw [mcu_c (f := sa S 535) hv 535 (fun k _ => by rw [h.2.2.1 535 rfl])]; exact on_cn (by omega)
  have hl : cq d z.1 ≤ dNp d := cnb_le _
  rw [e1, e2, nI_subn (by omega), h1]
  exact ⟨congrArg nI (by omega), c, by omega, rfl⟩
end YRE
theorem DT_B {d : HD} {f : Row} (h : DT d f) : DB 500 d f := by
  obtain ⟨D, h1, h2, h3⟩ := h
  exact DB_m h3 h1
theorem st_year {g : Gp} {S : Sx} (hl : (gl g).stackTraces = false) (hI : INV S) (x y z : Int32) : SW g INV mL_year hL_year mX11_year wI [.int x, .int y, .int z] S := by
  obtain ⟨p, hB⟩ := hI
  by_cases hv : (1 ≤ y ∧ y ≤ 96) ∧ (0 ≤ z ∧ z ≤ 3)
  · obtain ⟨n, hn, rfl⟩ := i_nat (n := 96) (by decide) ⟨Int32.le_trans (by decide) hv.1.1, hv.1.2⟩
    have h1 : 1 ≤ n := (nI_leI (by decide) (by omega)).mp hv.1.1
    obtain ⟨w, hw, rfl⟩ := i_nat (n := 3) (by decide) hv.2
    refine sw_q (d2 := 10) hB (by decide) (wg_year (by decide) (qE (r_X10_year (x := x) hB.1 (DT_B (bD hB)) (by decide) h1 hn hw))) (fun Y hY hBY => ?_)
    have e : sa (S0 Y) 535 = sa S 535 := eqI_535 (eqI_t hY (eqI_0 Y))
    have hBZ := IB_eqI (eqI_0 Y) hBY
    have hR := YR_X (m := pm p) (wv := pw p) (bG hBZ) (bhv hBZ) (off3_r (S0 Y)) x n
    have hQ := YQ_n (m := pm p) (wv := pw p) (bhv hBZ) (YQ_0 (f := sa (S0 Y) 535) x) n
    have hM := more_e (bhv hBZ) hR.1 hR.2.1 hQ
    rw [e] at hR hM
    obtain rfl | rfl | rfl | rfl : w = 0 ∨ w = 1 ∨ w = 2 ∨ w = 3 := by omega
    · have h := mE (r_X11_year0 (g := g) (S := Y) (x := x) (bH hBY) (bW hBY) (bM hBY) h1 hn)
      have e2 : mcu (yrX (S0 Y) x n (dNs (pd p)) (dNr (pd p)) (dNp (pd p)) (dOw (pd p)) (pm p) (pw p)) 535 (dNp (pd p)) = mcu Y 535 (dNp (pd p)) := mcu_off3 hR.1 _
      rw [← e2, hM.1] at h
      exact h
    · have h := mE (r_X11_year1 (g := g) (S := Y) (x := x) (bH hBY) (bW hBY) (bM hBY) h1 hn)
      rw [hR.2.2.2] at h
      exact h
    · have h := mE (r_X11_year2 (g := g) (S := Y) (x := x) (bH hBY) (bW hBY) (bM hBY) h1 hn)
      rw [sm_cg (fun r hr => (mpw_A (HG_3 (bG hBZ) (bhv hBZ) hR.1) (bhv hBZ) hr).trans (pwN_cg (bhv hBZ) hR.2.1 hr))] at h
      exact h
    · have h := mE (r_X11_year3 (g := g) (S := Y) (x := x) (bH hBY) (bW hBY) (bM hBY) h1 hn)
      rw [mcu_c (bhv hBZ) 536 hR.2.1] at h
      exact h
  · exact sw_e hB (k := 1) (by decide) (by decide) (we_year_IA (by decide) (e_X10_year hl hv)) (r_X11_year_er hv) (by decide)
section SPE
variable {S : Sx} {d : HD} {m : Nat} {wv : Nat → Nat × Nat}
theorem min_c (x y : Int32) : (if x < y then x else y) = (if y < x then y else x) := by
  by_cases h : x < y
  · rw [if_pos h, if_neg (fun z => Int32.lt_asymm h z)]
  · rw [if_neg h]
    by_cases h2 : y < x
    · rw [if_pos h2]
    · rw [if_neg h2]
      exact Int32.le_antisymm (Int32.not_lt.mp h) (Int32.not_lt.mp h2)
theorem sp_e (hG : HG S d) (hv : HV d) {x : Int32} {days p : Nat} (hp : p < dNp d) : ∀ k, ((k = 0 ∧ (spT S x days (dNs d) (dNr d) (dNp d) (dOw d) m wv p k).2.1 = -1 ∧ (spC d m wv (sa S 535) x days p k).1 = 8) ∨ ∃ c, c ≤ 8 ∧ (spT S x days (dNs d) (dNr d) (dNp d) (dOw d) m wv p k).2.1 = nI c ∧ (spC d m wv (sa S 535) x days p k).1 = nI c) ∧ (spT S x days (dNs d) (dNr d) (dNp d) (dOw d) m wv p k).2.2 = (spC d m wv (sa S 535) x days p k).2
  | 0 => ⟨Or.inl ⟨rfl, rfl, rfl⟩, rfl⟩
  | k + 1 => by
    have h8 : dNp d ≤ 8 := hv.2.2.1
    obtain ⟨i1, i2⟩ := sp_e hG hv (x := x) (days := days) hp k
    have ho := off3_spT (off3_r S) x days (dNs d) (dNr d) (dNp d) (dOw d) m wv p k
    have hR := YR_X (m := m) (wv := wv) hG hv ho (x + ix k) days
    have hQ := YQ_n (m := m) (wv := wv) hv (YQ_0 (f := sa S 535) (x + ix k)) days
    obtain ⟨m1, c0, m2, m3⟩ := more_e hv hR.1 hR.2.1 hQ
    have eC : spC d m wv (sa S 535) x days p (k + 1) = ((if (yA d m wv days (sa S 535, x + ix k, 0, 0)).2.2.2 < (spC d m wv (sa S 535) x days p k).1 then (yA d m wv days (sa S 535, x + ix k, 0, 0)).2.2.2 else (spC d m wv (sa S 535) x days p k).1), (if (spC d m wv (sa S 535) x days p k).2.1 < (yA d m wv days (sa S 535, x + ix k, 0, 0)).2.2.2 then (yA d m wv days (sa S 535, x + ix k, 0, 0)).2.2.2 else (spC d m wv (sa S 535) x days p k).2.1), (if (yA d m wv days (sa S 535, x + ix k, 0, 0)).1 (36 + p) ≠ -1 then (spC d m wv (sa S 535) x days p k).2.2 + 1 else (spC d m wv (sa S 535) x days p k).2.2)) := rfl
    have eT : spT S x days (dNs d) (dNr d) (dNp d) (dOw d) m wv p (k + 1) = (yrX (spT S x days (dNs d) (dNr d) (dNp d) (dOw d) m wv p k).1 (x + ix k) days (dNs d) (dNr d) (dNp d) (dOw d) m wv, (if (spT S x days (dNs d) (dNr d) (dNp d) (dOw d) m wv p k).2.1 = -1 then (yA d m wv days (sa S 535, x + ix k, 0, 0)).2.2.2 else if (spT S x days (dNs d) (dNr d) (dNp d) (dOw d) m wv p k).2.1 < (yA d m wv days (sa S 535, x + ix k, 0, 0)).2.2.2 then (spT S x days (dNs d) (dNr d) (dNp d) (dOw d) m wv p k).2.1 else (yA d m wv days (sa S 535, x + ix k, 0, 0)).2.2.2), (if (yA d m wv days (sa S 535, x + ix k, 0, 0)).2.2.2 < (spT S x days (dNs d) (dNr d) (dNp d) (dOw d) m wv p k).2.2.1 then (spT S x days (dNs d) (dNr d) (dNp d) (dOw d) m wv p k).2.2.1 else (yA d m wv days (sa S 535, x + ix k, 0, 0)).2.2.2), (spT S x days (dNs d) (dNr d) (dNp d) (dOw d) m wv p k).2.2.2 + (if mcu (yrX (spT S x days (dNs d) (dNr d) (dNp d) (dOw d) m wv p k).1 (x + ix k) days (dNs d) (dNr d) (dNp d) (dOw d) m wv) 536 (dNp d) >>> (nI p &&& 31) &&& 1 = 1 then 1 else 0)) := by
      rw [← m1]
      rfl
    rw [eC, eT, i2]
    refine ⟨Or.inr ?_, ?_⟩
    · rcases i1 with ⟨-, e1, e2⟩ | ⟨c, hc, e1, e2⟩
      · refine ⟨c0, m2, ?_, ?_⟩
        · show (if (spT S x days (dNs d) (dNr d) (dNp d) (dOw d) m wv p k).2.1 = -1 then _ else _) = _
          rw [if_pos e1, m3]
        · show (if (yA d m wv days (sa S 535, x + ix k, 0, 0)).2.2.2 < (spC d m wv (sa S 535) x days p k).1 then _ else _) = _
          rw [e2, m3]
          by_cases q : c0 = 8
          · subst q; exact ite_self _
          · rw [if_pos (show nI c0 < 8 from (nI_ltI (b := 8) (by omega) (by decide)).mpr (by omega))]
      · refine ⟨if c < c0 then c else c0, by split <;> omega, ?_, ?_⟩
        · show (if (spT S x days (dNs d) (dNr d) (dNp d) (dOw d) m wv p k).2.1 = -1 then _ else if (spT S x days (dNs d) (dNr d) (dNp d) (dOw d) m wv p k).2.1 < _ then _ else _) = _
          rw [e1, m3, if_neg (nI_nm (by omega))]
          by_cases q : c < c0
          · rw [if_pos q, if_pos ((nI_ltI (by omega) (by omega)).mpr q)]
          · rw [if_neg q, if_neg (fun w => q ((nI_ltI (by omega) (by omega)).mp w))]
        · show (if (yA d m wv days (sa S 535, x + ix k, 0, 0)).2.2.2 < (spC d m wv (sa S 535) x days p k).1 then _ else _) = _
          rw [e2, m3, min_c]
          by_cases q : c < c0
          · rw [if_pos q, if_pos ((nI_ltI (by omega) (by omega)).mpr q)]
          · rw [if_neg q, if_neg (fun w => q ((nI_ltI (by omega) (by omega)).mp w))]
    · have e3 : (mcu (yrX (spT S x days (dNs d) (dNr d) (dNp d) (dOw d) m wv p k).1 (x + ix k) days (dNs d) (dNr d) (dNp d) (dOw d) m wv) 536 (dNp d) >>> (nI p &&& 31) &&& 1 = 1) ↔ (yA d m wv days (sa S 535, x + ix k, 0, 0)).1 (36 + p) ≠ -1 := by
        rw [mcu_c hv 536 hR.2.1, bt_t _ (by omega), bt_msk _ _ (by omega), decide_eq_true hp, Bool.true_and]
        by_cases q : (yA d m wv days (sa S 535, x + ix k, 0, 0)).1 (36 + p) ≠ -1
        · rw [if_pos (decide_eq_true q)]; exact ⟨fun _ => q, fun _ => rfl⟩
        · rw [if_neg (fun w => q (of_decide_eq_true w))]; exact ⟨fun w => absurd w (by decide), fun w => absurd w q⟩
      show ((if _ < (spC d m wv (sa S 535) x days p k).2.1 then _ else _), (spC d m wv (sa S 535) x days p k).2.2 + _) = ((if _ then _ else _), (if _ then _ else _))
      rw [max_c]
      by_cases q : (yA d m wv days (sa S 535, x + ix k, 0, 0)).1 (36 + p) ≠ -1
      · rw [if_pos (e3.mpr q), if_pos q]
      · rw [if_neg (fun w => q (e3.mp w)), if_neg q, Int32.add_zero]
end SPE
theorem st_span {g : Gp} {S : Sx} (hl : (gl g).stackTraces = false) (hI : INV S) (x y z u v : Int32) : SW g INV mL_span hL_span mX11_span wI [.int x, .int y, .int z, .int u, .int v] S := by
  obtain ⟨p, hB⟩ := hI
  have n3 : dNp (pd p) ≤ 8 := (bhv hB).2.2.1
  by_cases hv : (1 ≤ y ∧ y ≤ 20) ∧ (1 ≤ z ∧ z ≤ 96) ∧ (0 ≤ u ∧ u ≤ 2) ∧ (0 ≤ v ∧ v ≤ nI (dNp (pd p)) - 1)
  · obtain ⟨q, hq, rfl⟩ := i_nat (n := 20) (by decide) ⟨Int32.le_trans (by decide) hv.1.1, hv.1.2⟩
    have q1 : 1 ≤ q := (nI_leI (by decide) (by omega)).mp hv.1.1
    obtain ⟨n, hn, rfl⟩ := i_nat (n := 96) (by decide) ⟨Int32.le_trans (by decide) hv.2.1.1, hv.2.1.2⟩
    have h1 : 1 ≤ n := (nI_leI (by decide) (by omega)).mp hv.2.1.1
    obtain ⟨w, hw, rfl⟩ := i_nat (n := 2) (by decide) hv.2.2.1
    obtain ⟨r, hr, rfl⟩ := in_of (by omega) hv.2.2.2
    refine sw_q (d2 := 10) hB (by decide) (wg_span (by decide) (qE (r_X10_span (x := x) hB.1 (DT_B (bD hB)) (by decide) q1 hq h1 hn hv.2.2.1 hr))) (fun Y hY hBY => ?_)
    have e : sa (S0 Y) 535 = sa S 535 := eqI_535 (eqI_t hY (eqI_0 Y))
    have hBZ := IB_eqI (eqI_0 Y) hBY
    have h := mE (r_X11_span (g := g) (S := Y) (x := x) (bH hBY) (bW hBY) (bM hBY) q1 hq h1 hn hw hr)
    obtain ⟨k1, k2⟩ := sp_e (m := pm p) (wv := pw p) (bG hBZ) (bhv hBZ) (x := x) (days := n) hr q
    rw [e] at k1 k2
    rcases k1 with ⟨z0, -⟩ | ⟨c, hc, e1, e2⟩
    · exact absurd z0 (by omega)
    · rw [e1, k2, ← e2] at h
      exact h
  · exact sw_e hB (k := 1) (by decide) (by decide) (we_span_IA (by decide) (e_X10_span hl hB.1 hv)) (r_X11_span_er (MH_ce hB) hv) (by decide)

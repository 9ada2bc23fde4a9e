/-! ===== the queries, step by step ===== -/
section QS
variable {S Y : Sx} {p : WT}
theorem bhv (h : IB S p) : HV (pd p) := h.1.2.2.2.2.2.2.1
theorem bW (h : IB S p) : LawW (pm p) (pw p) := h.1.2.2.2.2.2.2.2.1
theorem bG (h : IB S p) : HG S (pd p) := h.2.2.1.1
theorem bM (h : IB S p) : LawM S (pm p) (pw p) := h.2.2.1.2.1
theorem bD (h : IB S p) : DT (pd p) (sa S 535) := h.2.2.1.2.2.1
theorem bK (h : IB S p) : KA (pd p) (sa S 535) := h.2.2.1.2.2.2
theorem bH (h : IB S p) : MH S (dNs (pd p)) (dNr (pd p)) (dNp (pd p)) (dOw (pd p)) := HG_MH (bG h) (bhv h)
theorem bV (h : IB S p) : VW S (dNs (pd p)) (pd p).2.1 := fun s hs => by
  have h8 : dNs (pd p) ≤ 8 := (bhv h).1
  have e := (bG h).2.2.2.2.1 s (by omega)
  cases c : (pd p).2.1 s with
  | none => exact Or.inl ⟨rfl, by rw [e, c]; rfl⟩
  | some v => exact Or.inr ⟨v, rfl, ((bhv h).2.2.2.2.1 s v c).2, by rw [e, c]; rfl⟩
theorem bT (h : IB S p) : TM S (dNs (pd p)) (dTm (pd p)) := fun s hs => ⟨(bG h).2.2.2.1 s hs, (bhv h).2.2.2.1 s hs⟩
end QS
theorem n_of {x : Int32} (h : 0 ≤ x) : ∃ n, n < 2 ^ 31 ∧ x = nI n := nI_of (Int32.not_lt.mpr h)
theorem i_nat {x : Int32} {n : Nat} (hn : n < 2 ^ 31) (h : 0 ≤ x ∧ x ≤ nI n) : ∃ w, w ≤ n ∧ x = nI w := by
  obtain ⟨w, hw, rfl⟩ := n_of h.1
  exact ⟨w, (nI_leI hw hn).mp h.2, rfl⟩
theorem in_of {x : Int32} {n : Nat} (hn : n ≤ 100) (h : 0 ≤ x ∧ x ≤ nI n - 1) : ∃ s, s < n ∧ x = nI s := by
  obtain ⟨w, hw, rfl⟩ := n_of h.1
  by_cases c : n = 0
  · subst c
    exact absurd (Int32.le_trans h.1 h.2) (by decide)
  · have h2 := h.2
    rw [show (1 : Int32) = nI 1 from rfl, nI_subn (by omega)] at h2
    exact ⟨w, by have := (nI_leI hw (by omega)).mp h2; omega, rfl⟩
theorem st_told {g : Gp} {S : Sx} (hl : (gl g).stackTraces = false) (hI : INV S) (x : Int32) : SW g INV mL_told hL_told mX11_told wI [.int x] S := by
  obtain ⟨p, hB⟩ := hI
  by_cases hv : 0 ≤ x ∧ x ≤ 10
  · obtain ⟨w, hw, rfl⟩ := i_nat (n := 10) (by decide) hv
    refine sw_q (d2 := 7) hB (by decide) (wg_told (by decide) (qW (r_X10_told hB.1 hB.2.1.2.2.2.2.2.2.2.2.2.1 hB.2.1.2.2.2.2.2.2.1 hw))) (fun Y hY hBY => ?_)
    have h := mW (r_X11_told (g := g) (S := Y) (bH hBY) (bW hBY) (bM hBY) hw)
    rw [← td_e (q := pq p) (bG hBY) (bhv hBY) (hBY.2.2.2.1.1.1.trans hBY.2.2.2.1.2.1.symm) hBY.2.2.2.2.2.1.2.1 hw] at h
    have e : tdC Y (pq p) (pm p) (pd p) (pw p) (sa Y 535) w = tdC S (pq p) (pm p) (pd p) (pw p) (sa S 535) w := by
      rw [eqI_535 hY]
      have e1 : sf Y (pq p) 1 = sf S (pq p) 1 := hBY.2.2.2.1.1.1.trans hB.2.2.2.1.1.1.symm
      have e2 : sf Y 0 13 = sf S 0 13 := hY.1.1 0 13 rfl
      unfold tdC
      rw [e1, e2]
    rw [e] at h
    exact h
  · exact sw_e hB (k := 1) (by decide) (by decide) (we_told_IA (by decide) (e_X10_told hl hv)) (r_X11_told_er hv) (by decide)
theorem st_sister {g : Gp} {S : Sx} (hl : (gl g).stackTraces = false) (hI : INV S) (x y : Int32) : SW g INV mL_sister hL_sister mX11_sister wI [.int x, .int y] S := by
  obtain ⟨p, hB⟩ := hI
  have n1 : dNs (pd p) ≤ 8 := (bhv hB).1
  by_cases hv : 0 ≤ x ∧ x ≤ nI (dNs (pd p)) - 1
  · by_cases hv2 : 0 ≤ y ∧ y ≤ 4
    · obtain ⟨s, hs, rfl⟩ := in_of (by omega) hv
      obtain ⟨w, hw, rfl⟩ := i_nat (n := 4) (by decide) hv2
      refine sw_q (d2 := 2) hB (by decide) (wg_sister (by decide) (qT (r_X10_sister hB.1 hs hw))) (fun Y hY hBY => ?_)
      have h := mT (r_X11_sister (g := g) (S := Y) (bH hBY) hs hw)
      rw [← ss_e (bG hBY) (bhv hBY) hs hw, eqI_535 hY] at h
      exact h
    · exact sw_e hB (k := 1) (by decide) (by decide) (we_sister_IA (by decide) (e2_X10_sister hl hB.1 hv hv2)) (r_X11_sister_e2 (MH_ce hB) hv hv2) (by decide)
  · exact sw_e hB (k := 0) (by decide) (by decide) (we_sister_NS (by decide) (e1_X10_sister hl hB.1 hv)) (r_X11_sister_e1 (MH_ce hB) hv) (by decide)
theorem st_relic {g : Gp} {S : Sx} (hl : (gl g).stackTraces = false) (hI : INV S) (x y : Int32) : SW g INV mL_relic hL_relic mX11_relic wI [.int x, .int y] S := by
  obtain ⟨p, hB⟩ := hI
  have n1 : dNr (pd p) ≤ 10 := (bhv hB).2.1
  by_cases hv : 0 ≤ x ∧ x ≤ nI (dNr (pd p)) - 1
  · by_cases hv2 : 0 ≤ y ∧ y ≤ 5
    · obtain ⟨s, hs, rfl⟩ := in_of (by omega) hv
      obtain ⟨w, hw, rfl⟩ := i_nat (n := 5) (by decide) hv2
      refine sw_q (d2 := 7) hB (by decide) (wg_relic (by decide) (qW (r_X10_relic hB.1 hs hw))) (fun Y hY hBY => ?_)
      have h := mW (r_X11_relic (g := g) (S := Y) (bH hBY) (bW hBY) (bM hBY) hs hw)
      rw [← rl_e (bG hBY) (bhv hBY) hs hw, eqI_535 hY] at h
      exact h
    · exact sw_e hB (k := 1) (by decide) (by decide) (we_relic_IA (by decide) (e2_X10_relic hl hB.1 hv hv2)) (r_X11_relic_e2 (MH_ce hB) hv hv2) (by decide)
  · exact sw_e hB (k := 0) (by decide) (by decide) (we_relic_NS (by decide) (e1_X10_relic hl hB.1 hv)) (r_X11_relic_e1 (MH_ce hB) hv) (by decide)
theorem st_pilgrim {g : Gp} {S : Sx} (hl : (gl g).stackTraces = false) (hI : INV S) (x y : Int32) : SW g INV mL_pilgrim hL_pilgrim mX11_pilgrim wI [.int x, .int y] S := by
  obtain ⟨p, hB⟩ := hI
  have n1 : dNp (pd p) ≤ 8 := (bhv hB).2.2.1
  by_cases hv : 0 ≤ x ∧ x ≤ nI (dNp (pd p)) - 1
  · by_cases hv2 : 0 ≤ y ∧ y ≤ 3
    · obtain ⟨s, hs, rfl⟩ := in_of (by omega) hv
      obtain ⟨w, hw, rfl⟩ := i_nat (n := 3) (by decide) hv2
      refine sw_q (d2 := 7) hB (by decide) (wg_pilgrim (by decide) (qW (r_X10_pilgrim hB.1 hs hw))) (fun Y hY hBY => ?_)
      have h := mW (r_X11_pilgrim (g := g) (S := Y) (bH hBY) (bW hBY) (bM hBY) hs hw)
      rw [← pl_e (bG hBY) (bhv hBY) hs hw, eqI_535 hY] at h
      exact h
    · exact sw_e hB (k := 1) (by decide) (by decide) (we_pilgrim_IA (by decide) (e2_X10_pilgrim hl hB.1 hv hv2)) (r_X11_pilgrim_e2 (MH_ce hB) hv hv2) (by decide)
  · exact sw_e hB (k := 0) (by decide) (by decide) (we_pilgrim_NS (by decide) (e1_X10_pilgrim hl hB.1 hv)) (r_X11_pilgrim_e1 (MH_ce hB) hv) (by decide)
theorem st_would {g : Gp} {S : Sx} (hl : (gl g).stackTraces = false) (hI : INV S) (x1 x2 x3 x4 x5 x6 x7 x8 : Int32) : SW g INV mL_would hL_would mX11_would wI [.int x1, .int x2, .int x3, .int x4, .int x5, .int x6, .int x7, .int x8] S := by
  obtain ⟨p, hB⟩ := hI
  by_cases hv : wvd x1 x2 x3 x4 x5 x6 x7 x8
  · exact sw_q (d2 := 4) hB (by decide) (wg_would (by decide) (qW (r_X10_would hB.1 hv))) (fun Y hY hBY => mW (r_X11_would (bW hBY) (bM hBY) hv))
  · exact sw_e hB (k := 1) (by decide) (by decide) (we_would_IA (by decide) (e_X10_would hl hv)) (r_X11_would_er hv) (by decide)
theorem st_can {g : Gp} {S : Sx} (hl : (gl g).stackTraces = false) (hI : INV S) (x y : Int32) : SW g INV mL_can hL_can mX11_can wZ [.int x, .int y] S := by
  obtain ⟨p, hB⟩ := hI
  have n1 : dNr (pd p) ≤ 10 := (bhv hB).2.1
  have n2 : dNp (pd p) ≤ 8 := (bhv hB).2.2.1
  by_cases hv : (0 ≤ x ∧ x ≤ nI (dNr (pd p)) - 1) ∧ (0 ≤ y ∧ y ≤ nI (dNp (pd p)) - 1)
  · obtain ⟨r, hr, rfl⟩ := in_of (by omega) hv.1
    obtain ⟨q, hq, rfl⟩ := in_of (by omega) hv.2
    refine sw_q (d2 := 8) hB (by decide) (wg_can (by decide) (qW (r_X10_can hB.1 hr hq))) (fun Y hY hBY => ?_)
    have h := mW (r_X11_can (g := g) (S := Y) (bH hBY) (bW hBY) (bM hBY) hr hq)
    rw [← cn_e (bG hBY) (bhv hBY) (hBY.1.2.2.2.2.2.2.2.2.2.2.2.2.2.2.2.2.2.2) hr hq, eqI_535 hY] at h
    exact h
  · exact sw_e hB (k := 0) (by decide) (by decide) (we_can_NS (by decide) (e_X10_can hl hB.1 hv)) (r_X11_can_er (MH_ce hB) hv) (by decide)
theorem st_when {g : Gp} {S : Sx} (hl : (gl g).stackTraces = false) (hI : INV S) (x y : Int32) : SW g INV mL_when hL_when mX11_when wI [.int x, .int y] S := by
  obtain ⟨p, hB⟩ := hI
  have n1 : dNr (pd p) ≤ 10 := (bhv hB).2.1
  have n2 : dNp (pd p) ≤ 8 := (bhv hB).2.2.1
  by_cases hv : (0 ≤ x ∧ x ≤ nI (dNr (pd p)) - 1) ∧ (0 ≤ y ∧ y ≤ nI (dNp (pd p)) - 1)
  · obtain ⟨r, hr, rfl⟩ := in_of (by omega) hv.1
    obtain ⟨q, hq, rfl⟩ := in_of (by omega) hv.2
    refine sw_q (d2 := 8) hB (by decide) (wg_when (by decide) (qW (r_X10_when hB.1 hr hq))) (fun Y hY hBY => ?_)
    have h := mV (r_X11_when (g := g) (S := Y) (bH hBY) (bW hBY) (bM hBY) hr hq)
    rw [wh_e (bG hBY) (bhv hBY) (bD hBY) hr hq, eqI_535 hY] at h
    exact h
  · exact sw_e hB (k := 0) (by decide) (by decide) (we_when_NS (by decide) (e_X10_when hl hB.1 hv)) (r_X11_when_er (MH_ce hB) hv) (by decide)
theorem i_01 {z : Int32} (h : 0 ≤ z ∧ z ≤ 1) : z = 0 ∨ z = 1 := by
  obtain ⟨w, hw, rfl⟩ := i_nat (n := 1) (by decide) h
  obtain rfl | rfl : w = 0 ∨ w = 1 := by omega
  · exact Or.inl rfl
  · exact Or.inr rfl
theorem st_ahead {g : Gp} {S : Sx} (hl : (gl g).stackTraces = false) (hI : INV S) (x y z : Int32) : SW g INV mL_ahead hL_ahead mX11_ahead wI [.int x, .int y, .int z] S := by
  obtain ⟨p, hB⟩ := hI
  have n1 : dNr (pd p) ≤ 10 := (bhv hB).2.1
  by_cases hv : 0 ≤ x ∧ x ≤ nI (dNr (pd p)) - 1
  · by_cases hv2 : (0 ≤ y ∧ y ≤ 99) ∧ (0 ≤ z ∧ z ≤ 1)
    · obtain ⟨r, hr, rfl⟩ := in_of (by omega) hv
      obtain ⟨n, hn, rfl⟩ := i_nat (n := 99) (by decide) hv2.1
      refine sw_q (d2 := 8) hB (by decide) (wg_ahead (by decide) (qW (r_X10_ahead hB.1 hr hn hv2.2))) (fun Y hY hBY => ?_)
      rcases i_01 hv2.2 with rfl | rfl
      · have h := mV (r_X11_ahead0 (g := g) (S := Y) (bH hBY) (bW hBY) (bM hBY) hr hn)
        rw [ahm_e (bG hBY) (bhv hBY) (bD hBY) hr (by omega), eqI_535 hY] at h
        exact h
      · have h := mV (r_X11_ahead1 (g := g) (S := Y) (bH hBY) (bW hBY) (bM hBY) hr hn)
        rw [ahl_e (bG hBY) (bhv hBY) (bD hBY) hr (by omega) (bK hBY r hr), eqI_535 hY] at h
        exact h
    · exact sw_e hB (k := 1) (by decide) (by decide) (we_ahead_IA (by decide) (e2_X10_ahead hl hB.1 hv hv2)) (r_X11_ahead_e2 (MH_ce hB) hv hv2) (by decide)
  · exact sw_e hB (k := 0) (by decide) (by decide) (we_ahead_NS (by decide) (e1_X10_ahead hl hB.1 hv)) (r_X11_ahead_e1 (MH_ce hB) hv) (by decide)
theorem st_match {g : Gp} {S : Sx} (hl : (gl g).stackTraces = false) (hI : INV S) : SP g INV mX10_match mX11_match [] S := by
  obtain ⟨p, hB⟩ := hI
  refine sp_q (d1 := 12) (d2 := 11) hB (by decide) (by decide) (qF (r_X10_match hB.1)) (fun Y hY hBY => ?_)
  have h := mE (r_X11_match (g := g) (S := Y) (bH hBY) (bW hBY) (bM hBY))
  rw [(mtR_A (S := S0 Y) (bG (IB_eqI (eqI_0 Y) hBY)) (bhv hBY)).1] at h
  have e : sa (S0 Y) 535 = sa S 535 := eqI_535 (eqI_t hY (eqI_0 Y))
  rw [e] at h
  exact h
theorem st_matched {g : Gp} {S : Sx} (hl : (gl g).stackTraces = false) (hI : INV S) (x : Int32) : SW g INV mL_matched hL_matched mX11_matched wI [.int x] S := by
  obtain ⟨p, hB⟩ := hI
  have n2 : dNp (pd p) ≤ 8 := (bhv hB).2.2.1
  by_cases hv : 0 ≤ x ∧ x ≤ nI (dNp (pd p)) - 1
  · obtain ⟨q, hq, rfl⟩ := in_of (by omega) hv
    refine sw_q (d2 := 11) hB (by decide) (wg_matched (by decide) (qF (r_X10_matched hB.1 hq))) (fun Y hY hBY => ?_)
    have h := mE (r_X11_matched (g := g) (S := Y) (bH hBY) (bW hBY) (bM hBY) hq)
    rw [(mtR_A (S := S0 Y) (bG (IB_eqI (eqI_0 Y) hBY)) (bhv hBY)).2 q hq] at h
    have e : sa (S0 Y) 535 = sa S 535 := eqI_535 (eqI_t hY (eqI_0 Y))
    rw [e] at h
    exact h
  · exact sw_e hB (k := 0) (by decide) (by decide) (we_matched_NS (by decide) (e_X10_matched hl hB.1 hv)) (r_X11_matched_er (MH_ce hB) hv) (by decide)
theorem st_best {g : Gp} {S : Sx} (hl : (gl g).stackTraces = false) (hI : INV S) (x y z : Int32) : SV8 g INV mL_best hL_best mX11_best [.int x, .int y, .int z] S := by
  obtain ⟨p, hB⟩ := hI
  have n1 : dNr (pd p) ≤ 10 := (bhv hB).2.1
  by_cases hv : 0 ≤ x ∧ x ≤ nI (dNr (pd p)) - 1
  · by_cases hv2 : (0 ≤ y ∧ y ≤ 6) ∧ (0 ≤ z ∧ z ≤ 1)
    · obtain ⟨r, hr, rfl⟩ := in_of (by omega) hv
      obtain ⟨n, hn, rfl⟩ := i_nat (n := 6) (by decide) hv2.1
      by_cases hk : sa S 535 (16 + r) = -1
      · refine sv_q (d2 := 2) hB (by decide) (wg_best (by decide) (qT8 (r_X10_best_no hB.1 hr hn hv2.2 hk))) (fun Y hY hBY => ?_)
        exact mT8 (r_X11_best_no (bH hBY) hr hn hv2.2 (by rw [eqI_535 hY]; exact hk))
      · refine sv_q (d2 := 12) hB (by decide) (wg_best (by decide) (qW8 (r_X10_best hB.1 hr hn hv2.2 hk))) (fun Y hY hBY => ?_)
        have h := mW8 (r_X11_best (g := g) (S := Y) (bH hBY) (bT hBY) (bW hBY) (bM hBY) hr hn hv2.2 (by rw [eqI_535 hY]; exact hk))
        rw [← bs_e (bG hBY) (bhv hBY) hr, eqI_535 hY] at h
        exact h
    · exact sv_e hB (k := 1) (by decide) (by decide) (we_best_IA (by decide) (e2_X10_best hl hB.1 hv hv2)) (r_X11_best_e2 (MH_ce hB) hv hv2) (by decide)
  · exact sv_e hB (k := 0) (by decide) (by decide) (we_best_NS (by decide) (e1_X10_best hl hB.1 hv)) (r_X11_best_e1 (MH_ce hB) hv) (by decide)
theorem st_without {g : Gp} {S : Sx} (hl : (gl g).stackTraces = false) (hI : INV S) (x y z : Int32) : SV8 g INV mL_without hL_without mX11_without [.int x, .int y, .int z] S := by
  obtain ⟨p, hB⟩ := hI
  have n1 : dNs (pd p) ≤ 8 := (bhv hB).1
  by_cases hv : 0 ≤ x ∧ x ≤ nI (dNs (pd p)) - 1
  · by_cases hv2 : (0 ≤ y ∧ y ≤ 12) ∧ (0 ≤ z ∧ z ≤ 1)
    · obtain ⟨s, hs, rfl⟩ := in_of (by omega) hv
      obtain ⟨n, hn, rfl⟩ := i_nat (n := 12) (by decide) hv2.1
      exact sv_q (d2 := 2) hB (by decide) (wg_without (by decide) (qT8 (r_X10_without hB.1 hs hn hv2.2))) (fun Y hY hBY => mT8 (r_X11_without (bH hBY) (bT hBY) hs hn hv2.2))
    · exact sv_e hB (k := 1) (by decide) (by decide) (we_without_IA (by decide) (e2_X10_without hl hB.1 hv hv2)) (r_X11_without_e2 (MH_ce hB) hv hv2) (by decide)
  · exact sv_e hB (k := 0) (by decide) (by decide) (we_without_NS (by decide) (e1_X10_without hl hB.1 hv)) (r_X11_without_e1 (MH_ce hB) hv) (by decide)
theorem st_ring {g : Gp} {S : Sx} (hl : (gl g).stackTraces = false) (hI : INV S) (x : Int32) : SW g INV mL_ring hL_ring mX11_ring wI [.int x] S := by
  obtain ⟨p, hB⟩ := hI
  have n1 : dNs (pd p) ≤ 8 := (bhv hB).1
  by_cases hv : 0 ≤ x ∧ x ≤ nI (dNs (pd p)) - 1
  · obtain ⟨s, hs, rfl⟩ := in_of (by omega) hv
    exact sw_q (d2 := 2) hB (by decide) (wg_ring (by decide) (qT (r_X10_ring hB.1 hs))) (fun Y hY hBY => mT (r_X11_ring (bH hBY) (bV hBY) hs))
  · exact sw_e hB (k := 0) (by decide) (by decide) (we_ring_NS (by decide) (e_X10_ring hl hB.1 hv)) (r_X11_ring_er (MH_ce hB) hv) (by decide)
theorem st_follows {g : Gp} {S : Sx} (hl : (gl g).stackTraces = false) (hI : INV S) (x y : Int32) : SW g INV mL_follows hL_follows mX11_follows wI [.int x, .int y] S := by
  obtain ⟨p, hB⟩ := hI
  have n1 : dNs (pd p) ≤ 8 := (bhv hB).1
  by_cases hv : 0 ≤ x ∧ x ≤ nI (dNs (pd p)) - 1
  · by_cases hv2 : 0 ≤ y ∧ y ≤ 1000000
    · obtain ⟨s, hs, rfl⟩ := in_of (by omega) hv
      obtain ⟨n, hn, rfl⟩ := i_nat (n := 1000000) (by decide) hv2
      exact sw_q (d2 := 2) hB (by decide) (wg_follows (by decide) (qT (r_X10_follows hB.1 hs hn))) (fun Y hY hBY => mT (r_X11_follows (bH hBY) (bV hBY) hs hn))
    · exact sw_e hB (k := 1) (by decide) (by decide) (we_follows_IA (by decide) (e2_X10_follows hl hB.1 hv hv2)) (r_X11_follows_e2 (MH_ce hB) hv hv2) (by decide)
  · exact sw_e hB (k := 0) (by decide) (by decide) (we_follows_NS (by decide) (e1_X10_follows hl hB.1 hv)) (r_X11_follows_e1 (MH_ce hB) hv) (by decide)
theorem st_tempted {g : Gp} {S : Sx} (hl : (gl g).stackTraces = false) (hI : INV S) (x y z : Int32) : SW g INV mL_tempted hL_tempted mX11_tempted wI [.int x, .int y, .int z] S := by
  obtain ⟨p, hB⟩ := hI
  by_cases hv : (0 ≤ x ∧ x ≤ 99) ∧ (0 ≤ y ∧ y ≤ 99) ∧ (0 ≤ z ∧ z ≤ 2)
  · exact sw_q (d2 := 2) hB (by decide) (wg_tempted (by decide) (qT (r_X10_tempted hv))) (fun Y hY hBY => mT (r_X11_tempted hv))
  · exact sw_e hB (k := 1) (by decide) (by decide) (we_tempted_IA (by decide) (e_X10_tempted hl hv)) (r_X11_tempted_er hv) (by decide)
theorem st_alms {g : Gp} {S : Sx} (hl : (gl g).stackTraces = false) (hI : INV S) (x y z : Int32) : SW g INV mL_alms hL_alms mX11_alms wI [.int x, .int y, .int z] S := by
  obtain ⟨p, hB⟩ := hI
  have n1 : dNp (pd p) ≤ 8 := (bhv hB).2.2.1
  by_cases hv : 0 ≤ x ∧ x ≤ nI (dNp (pd p)) - 1
  · by_cases hv2 : (0 ≤ y ∧ y ≤ 1 <<< (nI (dNp (pd p)) &&& 31) - 1) ∧ (0 ≤ z ∧ z ≤ 999)
    · obtain ⟨q, hq, rfl⟩ := in_of (by omega) hv
      refine sw_q (d2 := 2) hB (by decide) (wg_alms (by decide) (qT (r_X10_alms hB.1 hq hv2))) (fun Y hY hBY => ?_)
      have h := mT (r_X11_alms (g := g) (S := Y) (bH hBY) hq hv2)
      rw [← am_e (bG hBY), ((bG hBY).2.2.2.2.2.2 q hq).2] at h
      exact h
    · exact sw_e hB (k := 1) (by decide) (by decide) (we_alms_IA (by decide) (e2_X10_alms hl hB.1 hv hv2)) (r_X11_alms_e2 (MH_ce hB) hv hv2) (by decide)
  · exact sw_e hB (k := 0) (by decide) (by decide) (we_alms_NS (by decide) (e1_X10_alms hl hB.1 hv)) (r_X11_alms_e1 (MH_ce hB) hv) (by decide)
theorem st_strongest {g : Gp} {S : Sx} (hl : (gl g).stackTraces = false) (hI : INV S) (x : Int32) : SW g INV mL_strongest hL_strongest mX11_strongest wI [.int x] S := by
  obtain ⟨p, hB⟩ := hI
  by_cases hv : 0 ≤ x ∧ x ≤ 1
  · refine sw_q (d2 := 7) hB (by decide) (wg_strongest (by decide) (qW (r_X10_strongest hB.1 hv))) (fun Y hY hBY => ?_)
    have h := mW (r_X11_strongest (g := g) (S := Y) (bH hBY) (bW hBY) (bM hBY) hv)
    rw [← st_e (bG hBY) (bhv hBY), eqI_535 hY] at h
    exact h
  · exact sw_e hB (k := 1) (by decide) (by decide) (we_strongest_IA (by decide) (e_X10_strongest hl hv)) (r_X11_strongest_er hv) (by decide)
theorem st_bare {g : Gp} {S : Sx} (hl : (gl g).stackTraces = false) (hI : INV S) : SP g INV mX10_bare mX11_bare [] S := by
  obtain ⟨p, hB⟩ := hI
  refine sp_q (d1 := 1) (d2 := 2) hB (by decide) (by decide) (qT (r_X10_bare hB.1)) (fun Y hY hBY => ?_)
  have h := mT (r_X11_bare (g := g) (S := Y) (bH hBY))
  rw [← br_e (bG hBY), eqI_535 hY] at h
  exact h
theorem st_hopeless {g : Gp} {S : Sx} (hl : (gl g).stackTraces = false) (hI : INV S) (x : Int32) : SW g INV mL_hopeless hL_hopeless mX11_hopeless wI [.int x] S := by
  obtain ⟨p, hB⟩ := hI
  by_cases hv : 0 ≤ x ∧ x ≤ 99
  · obtain ⟨n, hn, rfl⟩ := i_nat (n := 99) (by decide) hv
    refine sw_q (d2 := 8) hB (by decide) (wg_hopeless (by decide) (qW (r_X10_hopeless hB.1 hn))) (fun Y hY hBY => ?_)
    have h := mE (r_X11_hopeless (g := g) (S := Y) (bH hBY) (bW hBY) (bM hBY) hn)
    rw [hp_e (bG hBY) (bhv hBY) (bD hBY) (by omega), eqI_535 hY] at h
    exact h
  · exact sw_e hB (k := 1) (by decide) (by decide) (we_hopeless_IA (by decide) (e_X10_hopeless hl hv)) (r_X11_hopeless_er hv) (by decide)
theorem st_eldest {g : Gp} {S : Sx} (hl : (gl g).stackTraces = false) (hI : INV S) (x : Int32) : SW g INV mL_eldest hL_eldest mX11_eldest wI [.int x] S := by
  obtain ⟨p, hB⟩ := hI
  by_cases hv : 0 ≤ x ∧ x ≤ 1
  · refine sw_q (d2 := 2) hB (by decide) (wg_eldest (by decide) (qT (r_X10_eldest hB.1 hv))) (fun Y hY hBY => ?_)
    have h := mT (r_X11_eldest (g := g) (S := Y) (bH hBY) hv)
    rw [← bst_el, eqI_535 hY] at h
    exact h
  · exact sw_e hB (k := 1) (by decide) (by decide) (we_eldest_IA (by decide) (e_X10_eldest hl hv)) (r_X11_eldest_er hv) (by decide)
theorem st_idle {g : Gp} {S : Sx} (hl : (gl g).stackTraces = false) (hI : INV S) : SP g INV mX10_idle mX11_idle [] S := by
  obtain ⟨p, hB⟩ := hI
  refine sp_q (d1 := 2) (d2 := 2) hB (by decide) (by decide) (qT (r_X10_idle hB.1)) (fun Y hY hBY => ?_)
  have h := mT (r_X11_idle (g := g) (S := Y) (bH hBY))
  rw [← id_e (bG hBY) (bhv hBY), eqI_535 hY] at h
  exact h
theorem st_needs {g : Gp} {S : Sx} (hl : (gl g).stackTraces = false) (hI : INV S) (x : Int32) : SW g INV mL_needs hL_needs mX11_needs wI [.int x] S := by
  obtain ⟨p, hB⟩ := hI
  by_cases hv : 0 ≤ x ∧ x ≤ 5
  · refine sw_q (d2 := 2) hB (by decide) (wg_needs (by decide) (qT (r_X10_needs hB.1 hv))) (fun Y hY hBY => ?_)
    have h := mT (r_X11_needs (g := g) (S := Y) (bH hBY) hv)
    rw [← ne_e (bG hBY), eqI_535 hY] at h
    exact h
  · exact sw_e hB (k := 1) (by decide) (by decide) (we_needs_IA (by decide) (e_X10_needs hl hv)) (r_X11_needs_er hv) (by decide)
theorem st_strength {g : Gp} {S : Sx} (hl : (gl g).stackTraces = false) (hI : INV S) (x : Int32) : SW g INV mL_strength hL_strength mX11_strength wI [.int x] S := by
  obtain ⟨p, hB⟩ := hI
  by_cases hv : 0 ≤ x ∧ x ≤ nI (dNs (pd p)) - 1
  · refine sw_q (d2 := 7) hB (by decide) (wg_strength (by decide) (qW (r_X10_strength hB.1 hv))) (fun Y hY hBY => ?_)
    have h := mW (r_X11_strength (g := g) (S := Y) (bH hBY) (bW hBY) (bM hBY) hv)
    rw [← sg_e (bG hBY) (bhv hBY), eqI_535 hY] at h
    exact h
  · exact sw_e hB (k := 0) (by decide) (by decide) (we_strength_NS (by decide) (e_X10_strength hl hB.1 hv)) (r_X11_strength_er (MH_ce hB) hv) (by decide)
theorem st_weakest {g : Gp} {S : Sx} (hl : (gl g).stackTraces = false) (hI : INV S) (x : Int32) : SW g INV mL_weakest hL_weakest mX11_weakest wI [.int x] S := by
  obtain ⟨p, hB⟩ := hI
  by_cases hv : 0 ≤ x ∧ x ≤ 1
  · refine sw_q (d2 := 2) hB (by decide) (wg_weakest (by decide) (qT (r_X10_weakest hB.1 hv))) (fun Y hY hBY => ?_)
    have h := mT (r_X11_weakest (g := g) (S := Y) (bH hBY) hv)
    rw [eqI_535 hY] at h
    exact h
  · exact sw_e hB (k := 1) (by decide) (by decide) (we_weakest_IA (by decide) (e_X10_weakest hl hv)) (r_X11_weakest_er hv) (by decide)
theorem st_fault {g : Gp} {S : Sx} (hl : (gl g).stackTraces = false) (hI : INV S) : SP g INV mX10_fault mX11_fault [] S := by
  obtain ⟨p, hB⟩ := hI
  refine sp_q (d1 := 0) (d2 := 1) hB (by decide) (by decide) (qT r_X10_fault) (fun Y hY hBY => ?_)
  have h := mT (r_X11_fault (g := g) (S := Y))
  rw [hY.1.1 59 3 rfl, ← hB.2.2.2.2.2.1.1] at h
  exact h
theorem st_status {g : Gp} {S : Sx} (hl : (gl g).stackTraces = false) (hI : INV S) (x : Int32) : SP g INV mX10_status mX11_status [.int x] S := by
  obtain ⟨p, hB⟩ := hI
  refine sp_q (d1 := 0) (d2 := 1) hB (by decide) (by decide) (qT r_X10_status) (fun Y hY hBY => ?_)
  have h := mT (r_X11_status (g := g) (S := Y) (x := x))
  rw [hY.2.2.2, ← hB.2.2.2.2.2.1.2.2.1, ← hB.2.2.2.2.2.1.2.2.2] at h
  exact h
theorem st_count {g : Gp} {S : Sx} (hl : (gl g).stackTraces = false) (hI : INV S) (x : Int32) : SP g INV mX10_count mX11_count [.int x] S := by
  obtain ⟨p, hB⟩ := hI
  refine sp_q (d1 := 0) (d2 := 1) hB (by decide) (by decide) (qT r_X10_count) (fun Y hY hBY => ?_)
  have h := mT (r_X11_count (g := g) (S := Y) (x := x))
  rw [hBY.2.2.2.2.2.2.2.2.2.2.2.1, hBY.2.2.2.2.1.2.2.1, hBY.2.2.2.2.2.2.1.2.2.2.2.1, ← hB.2.2.2.2.2.2.2.2.2.2.1, ← hB.2.2.2.2.1.2.1, ← hB.2.2.2.2.2.2.1.2.2.2.1] at h
  exact h

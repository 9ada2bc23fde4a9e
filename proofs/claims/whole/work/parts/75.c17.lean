/-! ===== a law is read ===== -/
def lwF (b : Nat) (x k : Nat) : Bool := decide (x = b ∧ k = 2)
def lwA (b : Nat) (x : Nat) : Bool := decide (x = b + 1)
theorem lwF_t (b : Nat) : lwF b b 2 = true := decide_eq_true ⟨rfl, rfl⟩
theorem lwA_t (b : Nat) : lwA b (b + 1) = true := decide_eq_true rfl
theorem LLa_1 {b : Nat} (h : LLa b) : b ≠ 1 := by rcases h with rfl | rfl <;> decide
theorem lwF_1 {b : Nat} (h : LLa b) : lwF b 1 2 = false := by rcases h with rfl | rfl <;> decide
theorem lwA_2 {b : Nat} (h : LLa b) : lwA b 2 = false := by rcases h with rfl | rfl <;> decide
def adS (S : Sx) (b m : Nat) (x : Int32) : Sx := if m < 150 then sF (sA S (b + 1) m x) b 2 (nI (m + 1)) else S
theorem ad_ct {S : Sx} {u : UT} {b m : Nat} {x : Int32} (h : b ≠ 1) : adS (ct S u) b m x = ct (adS S b m x) u := by
  unfold adS
  split
  · rw [ct_A, ct_F h]
  · rfl
def LIt (Y : Sx) (b : Nat) (l : List (Nat × Nat)) : Prop := sf Y b 2 = nI l.length ∧ ∀ k, k < l.length → sa Y (b + 1) k = nI (enc (l.getD k (0, 0)))
def LLn (Y : Sx) (b : Nat) : Prop := ∃ m, m ≤ 150 ∧ sf Y b 2 = nI m
theorem LIt_L {Y : Sx} {b : Nat} {l : List (Nat × Nat)} (h : LIt Y b l) (hl : l.length ≤ 150) : LLn Y b := ⟨_, hl, h.1⟩
theorem ad_L {Y : Sx} {b m : Nat} {x : Int32} (hm : m ≤ 150) (h : sf Y b 2 = nI m) : LLn (adS Y b m x) b := by
  unfold adS
  split
  · exact ⟨m + 1, by omega, sF_s⟩
  · exact ⟨m, hm, h⟩
theorem ad_F {S Y : Sx} {b m : Nat} {x : Int32} (h : FRC (lwF b) (lwA b) S Y) : FRC (lwF b) (lwA b) S (adS Y b m x) := by
  unfold adS
  split
  · exact FRC_F (FRC_A h (lwA_t b)) (lwF_t b)
  · exact h
theorem ad_I {Y : Sx} {b : Nat} {l : List (Nat × Nat)} (h : LIt Y b l) (hl : l.length < 150) (q : Nat × Nat) : LIt (adS Y b l.length (nI (enc q))) b (l ++ [q]) := by
  unfold adS
  rw [if_pos hl]
  refine ⟨by rw [sF_s, len1], fun k hk => ?_⟩
  rw [len1] at hk
  show sa (sA Y (b + 1) l.length (nI (enc q))) (b + 1) k = _
  by_cases e : k = l.length
  · subst e; rw [sa_e, getD_e]
  · rw [sa_n e, getD_l (by omega)]; exact h.2 k (by omega)
theorem nI_eq_m {a b : Nat} (ha : a < 2 ^ 31) (hb : b < 2 ^ 31) (h : nI a = nI b) : a = b := (nI_eq ha hb).mp h
theorem r_X2_add {g : Gp} {S : Sx} {b m : Nat} {x : Int32} (hLL : LLa b) (hm : m ≤ 150) (hl : sf S b 2 = nI m) : RT g mX2_add 0 [.ref b, .int x] S none (adS S b m x) := by
  refine RT_ofQ ⟨rfl, rfl⟩ (Nat.le_of_ble_eq_true rfl) (fun sz Q hQ => ?_)
  refine J_aload_n (pc := 0) dX2_add_0 rfl ?_
  refine J_geti (pc := 1) dX2_add_1 kc2 fl_X2_18 (by first | exact law_i2 (by assumption) | rfl) ?_
  refine J_t1 hl ?_
  refine J_aload_n (pc := 4) dX2_add_4 rfl ?_
  refine J_getr (pc := 5) dX2_add_5 kc2 fl_X2_9 (by first | exact law_r0 (by assumption) | rfl) ?_
  refine J_al (pc := 8) dX2_add_8 (law_a0 hLL) (by decide) rfl ?_
  refine J_icmp_ge (pc := 9) (tgt := 32) dX2_add_9 (by decide) (fun c9 => ?_) (fun c9 => ?_)
  · have h150 : ¬ m < 150 := fun q => absurd (nI_lt q (by decide)) (Int32.not_lt.mpr c9)
    exact J_ret (pc := 32) rfl rfl dX2_add_32 (rqv hQ (by unfold adS; first | rw [if_pos h150] | rw [if_neg h150]))
  · have h150 : m < 150 := Nat.lt_of_not_le (fun q => c9 (nI_le (a := 150) q (by omega)))
    refine J_aload_n (pc := 12) dX2_add_12 rfl ?_
    refine J_getr (pc := 13) dX2_add_13 kc2 fl_X2_9 (by first | exact law_r0 (by assumption) | rfl) ?_
    refine J_aload_n (pc := 16) dX2_add_16 rfl ?_
    refine J_geti (pc := 17) dX2_add_17 kc2 fl_X2_18 (by first | exact law_i2 (by assumption) | rfl) ?_
    refine J_t1 hl ?_
    refine J_iload_n (pc := 20) dX2_add_20 rfl ?_
    refine J_is (pc := 21) dX2_add_21 (law_a0 hLL) rfl ⟨h150, by decide⟩ ?_
    refine J_aload_n (pc := 22) dX2_add_22 rfl ?_
    refine J_dup (pc := 23) dX2_add_23 rfl ?_
    refine J_geti (pc := 24) dX2_add_24 kc2 fl_X2_18 (by first | exact law_i2 (by assumption) | rfl) ?_
    refine J_t1 (y := nI m) hl ?_
    refine J_iconst (pc := 27) (v := 1) dX2_add_27 (by decide) ?_
    refine J_iadd (pc := 28) dX2_add_28 ?_
    rw [nI_1]
    refine J_puti (pc := 29) dX2_add_29 kc2 fl_X2_18 (by first | exact law_i2 (by assumption) | rfl) ⟨rfl, rfl⟩ ?_
    exact J_ret (pc := 32) rfl rfl dX2_add_32 (rqv hQ (by unfold adS; first | rw [if_pos h150] | rw [if_neg h150]))
theorem r_X2_mayOpen {g : Gp} {S : Sx} {n : Nat} {u : UT} (hu : UO n u) {b op : Nat} (h6 : op ≤ 6) : RT g mX2_mayOpen 1 [.ref b, .ref 1, .int (nI op)] (ct S u) (some (.int (bI (decide (op < 6))))) (ct S (if op < 6 then u else um 3 u.2.1 u)) := by
  refine RT_ofQ ⟨rfl, rfl⟩ (Nat.le_of_ble_eq_true rfl) (fun sz Q hQ => ?_)
  refine J_iload_n (pc := 0) dX2_mayOpen_0 rfl ?_
  refine J_bipush (pc := 1) (v := 6) dX2_mayOpen_1 (by decide) ?_
  refine J_icmp_lt (pc := 3) (tgt := 15) dX2_mayOpen_3 (by decide) (fun c3 => ?_) (fun c3 => ?_)
  · have q6 : op < 6 := (nI_ltI (by omega) (by decide)).mp c3
    refine J_iload_n (pc := 15) dX2_mayOpen_15 rfl ?_
    refine J_bipush (pc := 16) (v := 6) dX2_mayOpen_16 (by decide) ?_
    refine J_icmp_ge (pc := 18) (tgt := 25) dX2_mayOpen_18 (by decide) (fun c18 => ?_) (fun c18 => ?_)
    · have q7 : ¬ op < 6 := fun q => absurd (nI_lt (b := 6) q (by decide)) (Int32.not_lt.mpr c18)
      refine J_iconst (pc := 25) (v := 0) dX2_mayOpen_25 (by decide) ?_
      exact J_iret (pc := 26) rfl rfl rfl dX2_mayOpen_26 (rq hQ (by first | exact Eq.symm (bI_t q7) | exact Eq.symm (bI_f q7)) (by first | rw [if_pos q6] | rw [if_neg q6] | (exact absurd q6 q7) | (exact absurd q7 q6)))
    · have q7 : op < 6 := Nat.lt_of_not_le (fun q => c18 (nI_le (a := 6) q (by omega)))
      refine J_iconst (pc := 21) (v := 1) dX2_mayOpen_21 (by decide) ?_
      refine J_goto (pc := 22) (tgt := 26) dX2_mayOpen_22 (by decide) ?_
      exact J_iret (pc := 26) rfl rfl rfl dX2_mayOpen_26 (rq hQ (by first | exact Eq.symm (bI_t q7) | exact Eq.symm (bI_f q7)) (by first | rw [if_pos q6] | rw [if_neg q6] | (exact absurd q6 q7) | (exact absurd q7 q6)))
  · have q6 : ¬ op < 6 := fun q => c3 (nI_lt (b := 6) q (by decide))
    refine J_aload_n (pc := 6) dX2_mayOpen_6 rfl ?_
    refine J_iconst (pc := 7) (v := 3) dX2_mayOpen_7 (by decide) ?_
    refine J_aload_n (pc := 8) dX2_mayOpen_8 rfl ?_
    refine J_getiN (pc := 9) dX2_mayOpen_9 kc8 fl_X2_87 rfl ?_
    refine J_t1 (y := nI u.2.1) rfl ?_
    refine J_cnv (pc := 12) (N := mX8_mark) dX2_mayOpen_12 ml_X2_43 cf_X8_mark cv_X8_mark (r_X8_mark (k := 3) hu (by decide)) rfl rfl (Nat.le_of_ble_eq_true rfl) (by decide) (rv_of (ci := 8) rfl rfl rfl) ?_
    refine J_iload_n (pc := 15) dX2_mayOpen_15 rfl ?_
    refine J_bipush (pc := 16) (v := 6) dX2_mayOpen_16 (by decide) ?_
    refine J_icmp_ge (pc := 18) (tgt := 25) dX2_mayOpen_18 (by decide) (fun c18 => ?_) (fun c18 => ?_)
    · have q7 : ¬ op < 6 := fun q => absurd (nI_lt (b := 6) q (by decide)) (Int32.not_lt.mpr c18)
      refine J_iconst (pc := 25) (v := 0) dX2_mayOpen_25 (by decide) ?_
      exact J_iret (pc := 26) rfl rfl rfl dX2_mayOpen_26 (rq hQ (by first | exact Eq.symm (bI_t q7) | exact Eq.symm (bI_f q7)) (by first | rw [if_pos q6] | rw [if_neg q6] | (exact absurd q6 q7) | (exact absurd q7 q6)))
    · have q7 : op < 6 := Nat.lt_of_not_le (fun q => c18 (nI_le (a := 6) q (by omega)))
      refine J_iconst (pc := 21) (v := 1) dX2_mayOpen_21 (by decide) ?_
      refine J_goto (pc := 22) (tgt := 26) dX2_mayOpen_22 (by decide) ?_
      exact J_iret (pc := 26) rfl rfl rfl dX2_mayOpen_26 (rq hQ (by first | exact Eq.symm (bI_t q7) | exact Eq.symm (bI_f q7)) (by first | rw [if_pos q6] | rw [if_neg q6] | (exact absurd q6 q7) | (exact absurd q7 q6)))
/-! the model's reading once more, by what stands next -/
theorem ptk_c {cc : Nat → Nat} {n c : Nat} {t : PT} (h0 : t.2.1 = 0) : ptk cc n c t = if cc (pbl cc n t.1) = c then (true, (pbl cc n t.1 + 1, t.2)) else (false, (pbl cc n t.1, t.2)) := if_neg (fun z => z h0)
theorem lpSl_eq {cc : Nat → Nat} {n : Nat} (hn : cc n = 999) {R : Nat → Nat → LgS → Option LgS} {op : Nat} {s : LgS} (h0 : s.1.2.1 = 0) (hp : s.1.1 ≤ n) : lpSl cc n R op s = match sg1 (cc (pbl cc n s.1.1)) with
    | some k => (R 1 op ((pbl cc n s.1.1 + 1, s.1.2), s.2)).bind fun s1 => R 3 op (nt (2 + k) 0 s1)
    | none => some ((pbl cc n s.1.1, s.1.2), s.2) := by
  unfold lpSl
  rw [if_neg (fun z => z h0), ptk_c h0]
  unfold sg1
  by_cases q1 : cc (pbl cc n s.1.1) = 43
  · rw [if_pos q1, if_pos q1]; rfl
  · rw [if_neg q1, if_neg q1, if_neg Bool.false_ne_true, ptk_c (by exact h0)]
    show (if (if cc (pbl cc n (pbl cc n s.1.1)) = 45 then _ else _ : Bool × PT).1 = true then _ else _) = _
    rw [pbl_pbl hn hp]
    by_cases q2 : cc (pbl cc n s.1.1) = 45
    · rw [if_pos q2, if_pos q2]; rfl
    · rw [if_neg q2, if_neg q2]; rfl
theorem lpPl_eq {cc : Nat → Nat} {n : Nat} (hn : cc n = 999) {R : Nat → Nat → LgS → Option LgS} {op : Nat} {s : LgS} (h0 : s.1.2.1 = 0) (hp : s.1.1 ≤ n) : lpPl cc n R op s = match sg2 (cc (pbl cc n s.1.1)) with
    | some k => (R 2 op ((pbl cc n s.1.1 + 1, s.1.2), s.2)).bind fun s1 => R 4 op (nt (4 + k) 0 s1)
    | none => some ((pbl cc n s.1.1, s.1.2), s.2) := by
  have hb := pbl_pbl hn hp
  unfold lpPl
  rw [if_neg (fun z => z h0), ptk_c h0]
  unfold sg2
  by_cases q1 : cc (pbl cc n s.1.1) = 42
  · rw [if_pos q1, if_pos q1]; rfl
  · rw [if_neg q1, if_neg q1, if_neg Bool.false_ne_true, ptk_c (by exact h0)]
    show (if (if cc (pbl cc n (pbl cc n s.1.1)) = 47 then _ else _ : Bool × PT).1 = true then _ else if (ptk cc n 37 (if cc (pbl cc n (pbl cc n s.1.1)) = 47 then _ else _ : Bool × PT).2).1 = true then _ else _) = _
    rw [hb]
    by_cases q2 : cc (pbl cc n s.1.1) = 47
    · rw [if_pos q2, if_pos q2]; rfl
    · rw [if_neg q2, if_neg q2, if_neg Bool.false_ne_true, ptk_c (by exact h0)]
      show (if (if cc (pbl cc n (pbl cc n s.1.1)) = 37 then _ else _ : Bool × PT).1 = true then _ else _) = _
      rw [hb]
      by_cases q3 : cc (pbl cc n s.1.1) = 37
      · rw [if_pos q3, if_pos q3]; rfl
      · rw [if_neg q3, if_neg q3]; rfl
theorem lp_no {cc : Nat → Nat} {n : Nat} : ∀ (f tag op : Nat) (s r : LgS), s.1.2.1 ≠ 0 → lp cc n f tag op s = some r → r = s
  | 0, _, _, _, _, _, h => by cases h
  | f + 1, 0, op, s, r, hp, h => by
    obtain ⟨s1, h1, h2⟩ := Option.bind_eq_some_iff.mp (show lpSum (lp cc n f) op s = some r from h)
    have a1 := lp_no f 1 op s s1 hp h1
    subst a1
    exact lp_no f 3 op _ r hp h2
  | f + 1, 1, op, s, r, hp, h => by
    obtain ⟨s1, h1, h2⟩ := Option.bind_eq_some_iff.mp (show lpPrd (lp cc n f) op s = some r from h)
    have a1 := lp_no f 2 op s s1 hp h1
    subst a1
    exact lp_no f 4 op _ r hp h2
  | f + 1, 2, op, s, r, hp, h => by
    have h : lpOne cc n (lp cc n f) op s = some r := h
    unfold lpOne at h
    rw [if_pos hp] at h
    cases h; rfl
  | f + 1, 3, op, s, r, hp, h => by
    have h : lpSl cc n (lp cc n f) op s = some r := h
    unfold lpSl at h
    rw [if_pos hp] at h
    cases h; rfl
  | f + 1, _ + 4, op, s, r, hp, h => by
    have h : lpPl cc n (lp cc n f) op s = some r := h
    unfold lpPl at h
    rw [if_pos hp] at h
    cases h; rfl
theorem wIs_eq {cc : Nat → Nat} {n a : Nat} {w v : List Nat} (h1 : wIs cc n a w = true) (h2 : wIs cc n a v = true) : w = v := by
  obtain ⟨a1, a2⟩ := of_decide_eq_true h1
  obtain ⟨b1, b2⟩ := of_decide_eq_true h2
  have e : w.length = v.length := by omega
  refine List.ext_getElem e (fun i hi hj => ?_)
  have x := a2 i hi
  have y := b2 i hj
  rw [List.getD_eq_getElem?_getD, List.getElem?_eq_getElem hi] at x
  rw [List.getD_eq_getElem?_getD, List.getElem?_eq_getElem hj] at y
  exact x.symm.trans y
theorem wix_m {cc : Nat → Nat} {n b : Nat} : ∀ {ws : List (List Nat)} {k j : Nat}, wix cc n b ws k = some j → ∃ w, w ∈ ws ∧ wIs cc n b w = true
  | [], _, _, h => by cases h
  | w :: ws, k, j, h => by
    by_cases q : wIs cc n b w = true
    · exact ⟨w, List.mem_cons_self, q⟩
    · have h : (if wIs cc n b w = true then some k else wix cc n b ws (k + 1)) = some j := h
      rw [if_neg q] at h
      obtain ⟨w', h1, h2⟩ := wix_m h
      exact ⟨w', List.mem_cons_of_mem _ h1, h2⟩
theorem wix_app {cc : Nat → Nat} {n b : Nat} (vs : List (List Nat)) : ∀ (ws : List (List Nat)) (k : Nat), wix cc n b (ws ++ vs) k = match wix cc n b ws k with
    | some j => some j
    | none => wix cc n b vs (k + ws.length)
  | [], k => rfl
  | w :: ws, k => by
    show (if wIs cc n b w = true then some k else wix cc n b (ws ++ vs) (k + 1)) = match (if wIs cc n b w = true then some k else wix cc n b ws (k + 1)) with
      | some j => some j
      | none => wix cc n b vs (k + (ws.length + 1))
    by_cases q : wIs cc n b w = true
    · rw [if_pos q, if_pos q]
    · rw [if_neg q, if_neg q, wix_app vs ws (k + 1), show k + 1 + ws.length = k + (ws.length + 1) by omega]
theorem wix_sh {cc : Nat → Nat} {n b : Nat} : ∀ (ws : List (List Nat)) (k c : Nat), wix cc n b ws (k + c) = (wix cc n b ws k).map (· + c)
  | [], k, c => rfl
  | w :: ws, k, c => by
    show (if wIs cc n b w = true then some (k + c) else wix cc n b ws (k + c + 1)) = Option.map (· + c) (if wIs cc n b w = true then some k else wix cc n b ws (k + 1))
    by_cases q : wIs cc n b w = true
    · rw [if_pos q, if_pos q]; rfl
    · rw [if_neg q, if_neg q, show k + c + 1 = k + 1 + c by omega, wix_sh ws (k + 1) c]
theorem wdj : ∀ w, w ∈ wLM → ∀ v, v ∈ wLaw → w ≠ v := by decide
theorem w4l : ∀ w, w ∈ wds 4 → 97 ≤ w.getD 0 0 ∧ 1 ≤ w.length := by decide
/-- the words of a law: the class looks them up in one row, the model in two -/
theorem w4 {cc : Nat → Nat} {n b : Nat} : wix cc n b (wds 4) 0 = match wix cc n b wLM 7 with
    | some k => some (k + 1)
    | none => wix cc n b wLaw 0 := by
  show wix cc n b (wLaw ++ wLM) 0 = _
  rw [wix_app]
  show (match wix cc n b wLaw 0 with | some j => some j | none => wix cc n b wLM (7 + 1)) = _
  rw [wix_sh wLM 7 1]
  cases h2 : wix cc n b wLM 7 with
  | none => cases wix cc n b wLaw 0 <;> rfl
  | some k =>
    cases h1 : wix cc n b wLaw 0 with
    | none => rfl
    | some j =>
      obtain ⟨w, m1, m2⟩ := wix_m h2
      obtain ⟨v, m3, m4⟩ := wix_m h1
      exact absurd (wIs_eq m2 m4) (wdj w m1 v m3)
theorem w4_no {cc : Nat → Nat} {n b : Nat} (h : cc b < 97) : wix cc n b (wds 4) 0 = none := by
  cases e : wix cc n b (wds 4) 0 with
  | none => rfl
  | some k =>
    obtain ⟨w, m1, m2⟩ := wix_m e
    obtain ⟨l1, l2⟩ := w4l w m1
    have := (of_decide_eq_true m2).2 0 (by omega)
    rw [Nat.add_zero] at this
    omega
theorem w4_n2 {cc : Nat → Nat} {n b : Nat} (h : wix cc n b (wds 4) 0 = none) : wix cc n b wLM 7 = none ∧ wix cc n b wLaw 0 = none := by
  rw [w4] at h
  cases e : wix cc n b wLM 7 with
  | none => rw [e] at h; exact ⟨rfl, h⟩
  | some k => rw [e] at h; cases h
/-- what a stretch of a law's text leaves -/
def LRd (S : Sx) (b n : Nat) (r : LgS) (X : Sx) : Prop := ∃ Y' u', X = ct Y' u' ∧ UO n u' ∧ UR u' r.1 ∧ FRC (lwF b) (lwA b) S Y' ∧ LLn Y' b ∧ (r.1.2.1 = 0 → LIt Y' b r.2)
theorem LRd_m {S S' : Sx} {b n : Nat} {r : LgS} {X : Sx} (h : LRd S' b n r X) (hf : FRC (lwF b) (lwA b) S S') : LRd S b n r X := by
  obtain ⟨Y', u', h1, h2, h3, h4, h5⟩ := h
  exact ⟨Y', u', h1, h2, h3, FRC_t hf h4, h5⟩
def CP0 (g : Gp) (n : Nat) (cc : Nat → Nat) (f : Nat) : Prop := ∀ (S : Sx) (op b : Nat) (s r : LgS) (u : UT), CTX S n cc → LLa b → op ≤ 6 → UO n u → UR u s.1 → s.1.2.1 = 0 → LI n s → LIt S b s.2 → lp cc n f 0 op s = some r → RU g mX2_readSum (4 * (6 - op) + 8) [.ref b, .ref 1, .int (nI op)] (ct S u) (LRd S b n r)
def CP1 (g : Gp) (n : Nat) (cc : Nat → Nat) (f : Nat) : Prop := ∀ (S : Sx) (op b : Nat) (s r : LgS) (u : UT), CTX S n cc → LLa b → op ≤ 6 → UO n u → UR u s.1 → s.1.2.1 = 0 → LI n s → LIt S b s.2 → lp cc n f 1 op s = some r → RU g mX2_readProduct (4 * (6 - op) + 7) [.ref b, .ref 1, .int (nI op)] (ct S u) (LRd S b n r)
def CP2 (g : Gp) (n : Nat) (cc : Nat → Nat) (f : Nat) : Prop := ∀ (S : Sx) (op b : Nat) (s r : LgS) (u : UT), CTX S n cc → LLa b → op ≤ 6 → UO n u → UR u s.1 → s.1.2.1 = 0 → LI n s → LIt S b s.2 → lp cc n f 2 op s = some r → RU g mX2_readUnit (4 * (6 - op) + 6) [.ref b, .ref 1, .int (nI op)] (ct S u) (LRd S b n r)
def CP3 (g : Gp) (n : Nat) (cc : Nat → Nat) (f : Nat) : Prop := ∀ (S Y : Sx) (op b i : Nat) (s r : LgS) (u : UT) (l4 : Option Value) (x : Int32) (sz : Nat) (Q : Po), CTX S n cc → LLa b → op ≤ 6 → UO n u → UR u s.1 → LI n s → FRC (lwF b) (lwA b) S Y → LLn Y b → (s.1.2.1 = 0 → LIt Y b s.2 ∧ i ≤ s.1.1 ∧ x = nI i) → lp cc n f 3 op s = some r → (∀ X, LRd S b n r X → Q (.inl none) (hs X) sz) → J g mX2_readSum (4 * (6 - op) + 8) [] 8 [some (.ref b), some (.ref 1), some (.int (nI op)), some (.int x), l4] [] (hs (ct Y u)) sz 0 0 Q
def CP4 (g : Gp) (n : Nat) (cc : Nat → Nat) (f : Nat) : Prop := ∀ (S Y : Sx) (op b i : Nat) (s r : LgS) (u : UT) (l4 : Option Value) (x : Int32) (sz : Nat) (Q : Po), CTX S n cc → LLa b → op ≤ 6 → UO n u → UR u s.1 → LI n s → FRC (lwF b) (lwA b) S Y → LLn Y b → (s.1.2.1 = 0 → LIt Y b s.2 ∧ i ≤ s.1.1 ∧ x = nI i) → lp cc n f 4 op s = some r → (∀ X, LRd S b n r X → Q (.inl none) (hs X) sz) → J g mX2_readProduct (4 * (6 - op) + 7) [] 8 [some (.ref b), some (.ref 1), some (.int (nI op)), some (.int x), l4] [] (hs (ct Y u)) sz 0 0 Q
theorem cp_s0 {g : Gp} {n : Nat} {cc : Nat → Nat} {f : Nat} (h150 : n ≤ 150) (i1 : CP1 g n cc f) (il : CP3 g n cc f) : CP0 g n cc (f + 1) := by
  intro S op b s r u hx hLL h6 hu hur hs0 hI hIt h
  obtain ⟨s1, e1, e2⟩ := Option.bind_eq_some_iff.mp (show lpSum (lp cc n f) op s = some r from h)
  obtain ⟨S', hT⟩ := TX_of hx
  have a1 := LT_lp hT f 1 op s s1 hI.1 e1
  refine RU_ofQ ⟨rfl, rfl⟩ (Nat.le_of_ble_eq_true rfl) (fun sz Q hQ => ?_)
  refine J_aload_n (pc := 0) dX2_readSum_0 rfl ?_
  refine J_aload_n (pc := 1) dX2_readSum_1 rfl ?_
  refine J_iload_n (pc := 2) dX2_readSum_2 rfl ?_
  refine J_cvU (pc := 3) (N := mX2_readProduct) dX2_readSum_3 ml_X2_47 cf_X2_readProduct cv_X2_readProduct (i1 S op b s s1 u hx hLL h6 hu hur hs0 hI hIt e1) rfl rfl (Nat.le_of_ble_eq_true rfl) (by omega) (rv_of (ci := 2) (by first | exact law_n (by assumption) | rfl) rfl rfl) ?_
  intro X3 hX3
  obtain ⟨Y', u', rfl, hu', hur', hfr', hln', hit'⟩ := hX3
  refine J_iconst (pc := 6) (v := 0) dX2_readSum_6 (by decide) ?_
  refine J_istore_n (pc := 7) dX2_readSum_7 (by decide) rfl ?_
  exact il S Y' op b 0 s1 r u' _ _ sz Q hx hLL h6 hu' hur' (LT_LI a1 hI) hfr' hln' (fun z => ⟨hit' z, Nat.zero_le _, rfl⟩) e2 hQ
theorem cp_s3 {g : Gp} {n : Nat} {cc : Nat → Nat} {f : Nat} (h150 : n ≤ 150) (i1 : CP1 g n cc f) (il : CP3 g n cc f) : CP3 g n cc (f + 1) := by
  intro S Y op b i s r u l4 x sz Q hx hLL h6 hu hur hI hfr hln hsd h hQ
  obtain ⟨S', hT⟩ := TX_of hx
  have hn9 := hx.2.2.2 n (Nat.le_refl _)
  have h1 := LLa_1 hLL
  have hxY := CTX_F hfr (lwF_1 hLL) (lwA_2 hLL) hx
  by_cases q0 : s.1.2.1 = 0
  · obtain ⟨hIt, hi, hx0⟩ := hsd q0
    subst hx0
    have u0 := UR_0 hur q0
    have eu : u.1 = s.1.1 := hur.2.2 q0
    have hle := hI.1.1
    have h : (match sg1 (cc (pbl cc n s.1.1)) with
      | some k => (lp cc n f 1 op ((pbl cc n s.1.1 + 1, s.1.2), s.2)).bind fun s1 => lp cc n f 3 op (nt (2 + k) 0 s1)
      | none => some ((pbl cc n s.1.1, s.1.2), s.2)) = some r := (lpSl_eq hn9 q0 hle (R := lp cc n f) (op := op)).symm.trans h
    by_cases qi : i < 150
    · refine J_iload_n (pc := 8) dX2_readSum_8 rfl ?_
      refine J_sipush (pc := 9) (v := 150) dX2_readSum_9 (by decide) ?_
      refine J_icmp_ge (pc := 12) (tgt := 59) dX2_readSum_12 (by decide) (fun c12 => absurd c12 (nI_ge (b := 150) qi (by decide))) (fun c12 => ?_)
      refine J_aload_n (pc := 15) dX2_readSum_15 rfl ?_
      refine J_cnr (pc := 16) (N := mX8_isSound) dX2_readSum_16 ml_X2_30 cf_X8_isSound cv_X8_isSound (r_X8_isSound hu) rfl rfl (Nat.le_of_ble_eq_true rfl) (by omega) (rv_of (ci := 8) rfl rfl rfl) ?_
      refine J_ifp_eq (pc := 19) (tgt := 59) dX2_readSum_19 (by decide) (fun c19 => absurd u0 c19) (fun c19 => ?_)
      refine J_aload_n (pc := 22) dX2_readSum_22 rfl ?_
      refine J_ldcs (pc := 23) (i := 1) dX2_readSum_23 rfl rfl ?_
      refine J_cnr (pc := 25) (N := mX8_takeOne) dX2_readSum_25 ml_X2_52 cf_X8_takeOne cv_X8_takeOne (r_X8_takeOne hxY hu (i := 0) (by decide)) rfl rfl (Nat.le_of_ble_eq_true rfl) (by omega) (rv_of (ci := 8) rfl rfl rfl) ?_
      have hut : utk cc n (sgs 1) u = match sg1 (cc (pbl cc n s.1.1)) with
          | some k => (some k, (pbl cc n s.1.1 + 1, pbl cc n s.1.1, u.2.2))
          | none => (none, (pbl cc n s.1.1, pbl cc n s.1.1, u.2.2)) := by
        unfold utk unx
        rw [eu]
        rfl
      have hutO := UO_tk hxY hu (i := 0) (by decide)
      cases hk : sg1 (cc (pbl cc n s.1.1)) with
      | none =>
        rw [hk] at h hut
        have hut : utk cc n (sgs 1) u = (none, (pbl cc n s.1.1, pbl cc n s.1.1, u.2.2)) := hut
        have h : some ((pbl cc n s.1.1, s.1.2), s.2) = some r := h
        rw [show sgs (0 + 1) = sgs 1 from rfl] at hutO ⊢
        rw [hut] at hutO ⊢
        cases h
        refine J_istore (pc := 28) dX2_readSum_28 (by decide) rfl ?_
        refine J_iload (pc := 30) dX2_readSum_30 rfl ?_
        refine J_iconst (pc := 32) (v := -1) dX2_readSum_32 (by decide) ?_
        refine J_icmp_ne (pc := 33) (tgt := 37) dX2_readSum_33 (by decide) (fun c33 => absurd rfl c33) (fun c33 => ?_)
        exact J_ret (pc := 36) rfl rfl dX2_readSum_36 (hQ _ ⟨Y, _, rfl, hutO, ⟨hur.1, hur.2.1, fun _ => rfl⟩, hfr, hln, fun _ => hIt⟩)
      | some k =>
        rw [hk] at h hut
        have hut : utk cc n (sgs 1) u = (some k, (pbl cc n s.1.1 + 1, pbl cc n s.1.1, u.2.2)) := hut
        have k3 := sg1_b hk
        obtain ⟨s1, e1, e2⟩ := Option.bind_eq_some_iff.mp (show (lp cc n f 1 op ((pbl cc n s.1.1 + 1, s.1.2), s.2)).bind (fun s1 => lp cc n f 3 op (nt (2 + k) 0 s1)) = some r from h)
        rw [show sgs (0 + 1) = sgs 1 from rfl] at hutO ⊢
        rw [hut] at hutO ⊢
        have hpg := pbl_ge cc n s.1.1
        have p0 : PO n ((pbl cc n s.1.1 + 1, s.1.2) : PT) := ⟨hutO.1, hI.1.2⟩
        have hI0 : LI n ((pbl cc n s.1.1 + 1, s.1.2), s.2) := ⟨p0, fun _ => by have := hI.2 q0; show s.2.length ≤ pbl cc n s.1.1 + 1; omega⟩
        have a1 := LT_lp hT f 1 op _ s1 p0 e1
        have a2 := LT_nt (u := s) a1 (by show s.1.1 + 1 ≤ pbl cc n s.1.1 + 1; omega) rfl q0 (2 + k) 0
        have hI2 := LT_LI a2 hI
        refine J_istore (pc := 28) dX2_readSum_28 (by decide) rfl ?_
        refine J_iload (pc := 30) dX2_readSum_30 rfl ?_
        refine J_iconst (pc := 32) (v := -1) dX2_readSum_32 (by decide) ?_
        refine J_icmp_ne (pc := 33) (tgt := 37) dX2_readSum_33 (by decide) (fun c33 => ?_) (fun c33 => absurd c33 (nI_nm (k := k) (by omega)))
        refine J_aload_n (pc := 37) dX2_readSum_37 rfl ?_
        refine J_aload_n (pc := 38) dX2_readSum_38 rfl ?_
        refine J_iload_n (pc := 39) dX2_readSum_39 rfl ?_
        refine J_cvU (pc := 40) (N := mX2_readProduct) dX2_readSum_40 ml_X2_47 cf_X2_readProduct cv_X2_readProduct (i1 Y op b ((pbl cc n s.1.1 + 1, s.1.2), s.2) s1 _ hxY hLL h6 hutO ⟨hur.1, hur.2.1, fun _ => rfl⟩ q0 hI0 hIt e1) rfl rfl (Nat.le_of_ble_eq_true rfl) (by omega) (rv_of (ci := 2) (by first | exact law_n (by assumption) | rfl) rfl rfl) ?_
        intro X40 hX40
        obtain ⟨Y', u', rfl, hu', hur', hfr', ⟨m, hm, hln'⟩, hit'⟩ := hX40
        refine J_aload_n (pc := 43) dX2_readSum_43 rfl ?_
        refine J_sipush (pc := 44) (v := 2000) dX2_readSum_44 (by decide) ?_
        refine J_iload (pc := 47) dX2_readSum_47 rfl ?_
        refine J_iadd (pc := 49) dX2_readSum_49 ?_
        refine J_t1 (y := nI (2000 + k)) (nI_add 2000 k) ?_
        refine J_cvv (pc := 50) (N := mX2_add) dX2_readSum_50 ml_X2_22 cf_X2_add cv_X2_add (r_X2_add hLL hm ((ct_o h1).trans hln')) rfl rfl (Nat.le_of_ble_eq_true rfl) (by omega) (rv_of (ci := 2) (by first | exact law_n (by assumption) | rfl) rfl rfl) ?_
        rw [ad_ct h1]
        refine J_iinc (pc := 53) (v := 1) dX2_readSum_53 rfl (by decide) rfl ?_
        rw [nI_1]
        refine J_goto (pc := 56) (tgt := 8) dX2_readSum_56 (by decide) ?_
        refine il S _ op b (i + 1) (nt (2 + k) 0 s1) r u' _ _ sz Q hx hLL h6 hu' hur' hI2 (ad_F (FRC_t hfr hfr')) (ad_L hm hln') (fun z => ?_) e2 hQ
        have z : s1.1.2.1 = 0 := z
        have lit := hit' z
        have em : m = s1.2.length := nI_eq_m (by omega) (by have := (LT_LI a1 hI0).2 z; have := a1.1.1; omega) (hln'.symm.trans lit.1)
        subst em
        have hz := hI2.2 (show s1.1.2.1 = 0 from z)
        have e3 : (nt (2 + k) 0 s1).2 = s1.2 ++ [(2 + k, 0)] := if_pos z
        rw [e3, len1] at hz
        have hz2 : s1.2.length + 1 ≤ s1.1.1 := hz
        have hb1 := a1.1.1
        have hat := (a1.2 z).2.1
        have hat : pbl cc n s.1.1 + 1 ≤ s1.1.1 := hat
        refine ⟨?_, by show i + 1 ≤ s1.1.1; omega, rfl⟩
        rw [e3, show nI (2000 + k) = nI (enc (2 + k, 0)) by unfold enc; rw [if_neg (by show ¬ _ + k = 0; omega), if_neg (by show ¬ _ + k = 1; omega)]; show nI (2000 + k) = nI (1998 + (2 + k)); congr 1; omega]
        exact ad_I lit (by omega) _
    · have hn : s.1.1 = n := by omega
      have hpn : pbl cc n s.1.1 = s.1.1 := by rw [hn]; exact pbl_id (by rw [hn9]; decide)
      have hsg : sg1 (cc (pbl cc n s.1.1)) = none := by rw [hpn, hn, hn9]; rfl
      rw [hsg] at h
      have h : some ((pbl cc n s.1.1, s.1.2), s.2) = some r := h
      cases h
      refine J_iload_n (pc := 8) dX2_readSum_8 rfl ?_
      refine J_sipush (pc := 9) (v := 150) dX2_readSum_9 (by decide) ?_
      refine J_icmp_ge (pc := 12) (tgt := 59) dX2_readSum_12 (by decide) (fun c12 => ?_) (fun c12 => absurd (nI_le (a := 150) (by omega) (by omega)) c12)
      exact J_ret (pc := 59) rfl rfl dX2_readSum_59 (hQ _ ⟨Y, u, rfl, hu, ⟨hur.1, hur.2.1, fun _ => by show u.1 = pbl cc n s.1.1; rw [eu, hpn]⟩, hfr, hln, fun _ => hIt⟩)
  · have := lp_no (f + 1) 3 op s r q0 h
    subst this
    have fin : J g mX2_readSum (4 * (6 - op) + 8) [] 59 [some (.ref b), some (.ref 1), some (.int (nI op)), some (.int x), l4] [] (hs (ct Y u)) sz 0 0 Q := J_ret (pc := 59) rfl rfl dX2_readSum_59 (hQ _ ⟨Y, u, rfl, hu, hur, hfr, hln, fun z => absurd z q0⟩)
    have u0 : ¬ u.2.2.1 = 0 := fun z => q0 (UR_s hur z)
    refine J_iload_n (pc := 8) dX2_readSum_8 rfl ?_
    refine J_sipush (pc := 9) (v := 150) dX2_readSum_9 (by decide) ?_
    refine J_icmp_ge (pc := 12) (tgt := 59) dX2_readSum_12 (by decide) (fun c12 => ?_) (fun c12 => ?_)
    · exact fin
    · refine J_aload_n (pc := 15) dX2_readSum_15 rfl ?_
      refine J_cnr (pc := 16) (N := mX8_isSound) dX2_readSum_16 ml_X2_30 cf_X8_isSound cv_X8_isSound (r_X8_isSound hu) rfl rfl (Nat.le_of_ble_eq_true rfl) (by omega) (rv_of (ci := 8) rfl rfl rfl) ?_
      refine J_ifp_eq (pc := 19) (tgt := 59) dX2_readSum_19 (by decide) (fun c19 => ?_) (fun c19 => absurd c19 u0)
      exact fin
theorem cp_s1 {g : Gp} {n : Nat} {cc : Nat → Nat} {f : Nat} (h150 : n ≤ 150) (i2 : CP2 g n cc f) (il : CP4 g n cc f) : CP1 g n cc (f + 1) := by
  intro S op b s r u hx hLL h6 hu hur hs0 hI hIt h
  obtain ⟨s1, e1, e2⟩ := Option.bind_eq_some_iff.mp (show lpPrd (lp cc n f) op s = some r from h)
  obtain ⟨S', hT⟩ := TX_of hx
  have a1 := LT_lp hT f 2 op s s1 hI.1 e1
  refine RU_ofQ ⟨rfl, rfl⟩ (Nat.le_of_ble_eq_true rfl) (fun sz Q hQ => ?_)
  refine J_aload_n (pc := 0) dX2_readProduct_0 rfl ?_
  refine J_aload_n (pc := 1) dX2_readProduct_1 rfl ?_
  refine J_iload_n (pc := 2) dX2_readProduct_2 rfl ?_
  refine J_cvU (pc := 3) (N := mX2_readUnit) dX2_readProduct_3 ml_X2_56 cf_X2_readUnit cv_X2_readUnit (i2 S op b s s1 u hx hLL h6 hu hur hs0 hI hIt e1) rfl rfl (Nat.le_of_ble_eq_true rfl) (by omega) (rv_of (ci := 2) (by first | exact law_n (by assumption) | rfl) rfl rfl) ?_
  intro X3 hX3
  obtain ⟨Y', u', rfl, hu', hur', hfr', hln', hit'⟩ := hX3
  refine J_iconst (pc := 6) (v := 0) dX2_readProduct_6 (by decide) ?_
  refine J_istore_n (pc := 7) dX2_readProduct_7 (by decide) rfl ?_
  exact il S Y' op b 0 s1 r u' _ _ sz Q hx hLL h6 hu' hur' (LT_LI a1 hI) hfr' hln' (fun z => ⟨hit' z, Nat.zero_le _, rfl⟩) e2 hQ
theorem cp_s4 {g : Gp} {n : Nat} {cc : Nat → Nat} {f : Nat} (h150 : n ≤ 150) (i2 : CP2 g n cc f) (il : CP4 g n cc f) : CP4 g n cc (f + 1) := by
  intro S Y op b i s r u l4 x sz Q hx hLL h6 hu hur hI hfr hln hsd h hQ
  obtain ⟨S', hT⟩ := TX_of hx
  have hn9 := hx.2.2.2 n (Nat.le_refl _)
  have h1 := LLa_1 hLL
  have hxY := CTX_F hfr (lwF_1 hLL) (lwA_2 hLL) hx
  by_cases q0 : s.1.2.1 = 0
  · obtain ⟨hIt, hi, hx0⟩ := hsd q0
    subst hx0
    have u0 := UR_0 hur q0
    have eu : u.1 = s.1.1 := hur.2.2 q0
    have hle := hI.1.1
    have h : (match sg2 (cc (pbl cc n s.1.1)) with
      | some k => (lp cc n f 2 op ((pbl cc n s.1.1 + 1, s.1.2), s.2)).bind fun s1 => lp cc n f 4 op (nt (4 + k) 0 s1)
      | none => some ((pbl cc n s.1.1, s.1.2), s.2)) = some r := (lpPl_eq hn9 q0 hle (R := lp cc n f) (op := op)).symm.trans h
    by_cases qi : i < 150
    · refine J_iload_n (pc := 8) dX2_readProduct_8 rfl ?_
      refine J_sipush (pc := 9) (v := 150) dX2_readProduct_9 (by decide) ?_
      refine J_icmp_ge (pc := 12) (tgt := 59) dX2_readProduct_12 (by decide) (fun c12 => absurd c12 (nI_ge (b := 150) qi (by decide))) (fun c12 => ?_)
      refine J_aload_n (pc := 15) dX2_readProduct_15 rfl ?_
      refine J_cnr (pc := 16) (N := mX8_isSound) dX2_readProduct_16 ml_X2_30 cf_X8_isSound cv_X8_isSound (r_X8_isSound hu) rfl rfl (Nat.le_of_ble_eq_true rfl) (by omega) (rv_of (ci := 8) rfl rfl rfl) ?_
      refine J_ifp_eq (pc := 19) (tgt := 59) dX2_readProduct_19 (by decide) (fun c19 => absurd u0 c19) (fun c19 => ?_)
      refine J_aload_n (pc := 22) dX2_readProduct_22 rfl ?_
      refine J_ldcs (pc := 23) (i := 2) dX2_readProduct_23 rfl rfl ?_
      refine J_cnr (pc := 25) (N := mX8_takeOne) dX2_readProduct_25 ml_X2_52 cf_X8_takeOne cv_X8_takeOne (r_X8_takeOne hxY hu (i := 1) (by decide)) rfl rfl (Nat.le_of_ble_eq_true rfl) (by omega) (rv_of (ci := 8) rfl rfl rfl) ?_
      have hut : utk cc n (sgs 2) u = match sg2 (cc (pbl cc n s.1.1)) with
          | some k => (some k, (pbl cc n s.1.1 + 1, pbl cc n s.1.1, u.2.2))
          | none => (none, (pbl cc n s.1.1, pbl cc n s.1.1, u.2.2)) := by
        unfold utk unx
        rw [eu]
        rfl
      have hutO := UO_tk hxY hu (i := 1) (by decide)
      cases hk : sg2 (cc (pbl cc n s.1.1)) with
      | none =>
        rw [hk] at h hut
        have hut : utk cc n (sgs 2) u = (none, (pbl cc n s.1.1, pbl cc n s.1.1, u.2.2)) := hut
        have h : some ((pbl cc n s.1.1, s.1.2), s.2) = some r := h
        rw [show sgs (1 + 1) = sgs 2 from rfl] at hutO ⊢
        rw [hut] at hutO ⊢
        cases h
        refine J_istore (pc := 28) dX2_readProduct_28 (by decide) rfl ?_
        refine J_iload (pc := 30) dX2_readProduct_30 rfl ?_
        refine J_iconst (pc := 32) (v := -1) dX2_readProduct_32 (by decide) ?_
        refine J_icmp_ne (pc := 33) (tgt := 37) dX2_readProduct_33 (by decide) (fun c33 => absurd rfl c33) (fun c33 => ?_)
        exact J_ret (pc := 36) rfl rfl dX2_readProduct_36 (hQ _ ⟨Y, _, rfl, hutO, ⟨hur.1, hur.2.1, fun _ => rfl⟩, hfr, hln, fun _ => hIt⟩)
      | some k =>
        rw [hk] at h hut
        have hut : utk cc n (sgs 2) u = (some k, (pbl cc n s.1.1 + 1, pbl cc n s.1.1, u.2.2)) := hut
        have k3 := sg2_b hk
        obtain ⟨s1, e1, e2⟩ := Option.bind_eq_some_iff.mp (show (lp cc n f 2 op ((pbl cc n s.1.1 + 1, s.1.2), s.2)).bind (fun s1 => lp cc n f 4 op (nt (4 + k) 0 s1)) = some r from h)
        rw [show sgs (1 + 1) = sgs 2 from rfl] at hutO ⊢
        rw [hut] at hutO ⊢
        have hpg := pbl_ge cc n s.1.1
        have p0 : PO n ((pbl cc n s.1.1 + 1, s.1.2) : PT) := ⟨hutO.1, hI.1.2⟩
        have hI0 : LI n ((pbl cc n s.1.1 + 1, s.1.2), s.2) := ⟨p0, fun _ => by have := hI.2 q0; show s.2.length ≤ pbl cc n s.1.1 + 1; omega⟩
        have a1 := LT_lp hT f 2 op _ s1 p0 e1
        have a2 := LT_nt (u := s) a1 (by show s.1.1 + 1 ≤ pbl cc n s.1.1 + 1; omega) rfl q0 (4 + k) 0
        have hI2 := LT_LI a2 hI
        refine J_istore (pc := 28) dX2_readProduct_28 (by decide) rfl ?_
        refine J_iload (pc := 30) dX2_readProduct_30 rfl ?_
        refine J_iconst (pc := 32) (v := -1) dX2_readProduct_32 (by decide) ?_
        refine J_icmp_ne (pc := 33) (tgt := 37) dX2_readProduct_33 (by decide) (fun c33 => ?_) (fun c33 => absurd c33 (nI_nm (k := k) (by omega)))
        refine J_aload_n (pc := 37) dX2_readProduct_37 rfl ?_
        refine J_aload_n (pc := 38) dX2_readProduct_38 rfl ?_
        refine J_iload_n (pc := 39) dX2_readProduct_39 rfl ?_
        refine J_cvU (pc := 40) (N := mX2_readUnit) dX2_readProduct_40 ml_X2_56 cf_X2_readUnit cv_X2_readUnit (i2 Y op b ((pbl cc n s.1.1 + 1, s.1.2), s.2) s1 _ hxY hLL h6 hutO ⟨hur.1, hur.2.1, fun _ => rfl⟩ q0 hI0 hIt e1) rfl rfl (Nat.le_of_ble_eq_true rfl) (by omega) (rv_of (ci := 2) (by first | exact law_n (by assumption) | rfl) rfl rfl) ?_
        intro X40 hX40
        obtain ⟨Y', u', rfl, hu', hur', hfr', ⟨m, hm, hln'⟩, hit'⟩ := hX40
        refine J_aload_n (pc := 43) dX2_readProduct_43 rfl ?_
        refine J_sipush (pc := 44) (v := 2002) dX2_readProduct_44 (by decide) ?_
        refine J_iload (pc := 47) dX2_readProduct_47 rfl ?_
        refine J_iadd (pc := 49) dX2_readProduct_49 ?_
        refine J_t1 (y := nI (2002 + k)) (nI_add 2002 k) ?_
        refine J_cvv (pc := 50) (N := mX2_add) dX2_readProduct_50 ml_X2_22 cf_X2_add cv_X2_add (r_X2_add hLL hm ((ct_o h1).trans hln')) rfl rfl (Nat.le_of_ble_eq_true rfl) (by omega) (rv_of (ci := 2) (by first | exact law_n (by assumption) | rfl) rfl rfl) ?_
        rw [ad_ct h1]
        refine J_iinc (pc := 53) (v := 1) dX2_readProduct_53 rfl (by decide) rfl ?_
        rw [nI_1]
        refine J_goto (pc := 56) (tgt := 8) dX2_readProduct_56 (by decide) ?_
        refine il S _ op b (i + 1) (nt (4 + k) 0 s1) r u' _ _ sz Q hx hLL h6 hu' hur' hI2 (ad_F (FRC_t hfr hfr')) (ad_L hm hln') (fun z => ?_) e2 hQ
        have z : s1.1.2.1 = 0 := z
        have lit := hit' z
        have em : m = s1.2.length := nI_eq_m (by omega) (by have := (LT_LI a1 hI0).2 z; have := a1.1.1; omega) (hln'.symm.trans lit.1)
        subst em
        have hz := hI2.2 (show s1.1.2.1 = 0 from z)
        have e3 : (nt (4 + k) 0 s1).2 = s1.2 ++ [(4 + k, 0)] := if_pos z
        rw [e3, len1] at hz
        have hz2 : s1.2.length + 1 ≤ s1.1.1 := hz
        have hb1 := a1.1.1
        have hat := (a1.2 z).2.1
        have hat : pbl cc n s.1.1 + 1 ≤ s1.1.1 := hat
        refine ⟨?_, by show i + 1 ≤ s1.1.1; omega, rfl⟩
        rw [e3, show nI (2002 + k) = nI (enc (4 + k, 0)) by unfold enc; rw [if_neg (by show ¬ _ + k = 0; omega), if_neg (by show ¬ _ + k = 1; omega)]; show nI (2002 + k) = nI (1998 + (4 + k)); congr 1; omega]
        exact ad_I lit (by omega) _
    · have hn : s.1.1 = n := by omega
      have hpn : pbl cc n s.1.1 = s.1.1 := by rw [hn]; exact pbl_id (by rw [hn9]; decide)
      have hsg : sg2 (cc (pbl cc n s.1.1)) = none := by rw [hpn, hn, hn9]; rfl
      rw [hsg] at h
      have h : some ((pbl cc n s.1.1, s.1.2), s.2) = some r := h
      cases h
      refine J_iload_n (pc := 8) dX2_readProduct_8 rfl ?_
      refine J_sipush (pc := 9) (v := 150) dX2_readProduct_9 (by decide) ?_
      refine J_icmp_ge (pc := 12) (tgt := 59) dX2_readProduct_12 (by decide) (fun c12 => ?_) (fun c12 => absurd (nI_le (a := 150) (by omega) (by omega)) c12)
      exact J_ret (pc := 59) rfl rfl dX2_readProduct_59 (hQ _ ⟨Y, u, rfl, hu, ⟨hur.1, hur.2.1, fun _ => by show u.1 = pbl cc n s.1.1; rw [eu, hpn]⟩, hfr, hln, fun _ => hIt⟩)
  · have := lp_no (f + 1) 4 op s r q0 h
    subst this
    have fin : J g mX2_readProduct (4 * (6 - op) + 7) [] 59 [some (.ref b), some (.ref 1), some (.int (nI op)), some (.int x), l4] [] (hs (ct Y u)) sz 0 0 Q := J_ret (pc := 59) rfl rfl dX2_readProduct_59 (hQ _ ⟨Y, u, rfl, hu, hur, hfr, hln, fun z => absurd z q0⟩)
    have u0 : ¬ u.2.2.1 = 0 := fun z => q0 (UR_s hur z)
    refine J_iload_n (pc := 8) dX2_readProduct_8 rfl ?_
    refine J_sipush (pc := 9) (v := 150) dX2_readProduct_9 (by decide) ?_
    refine J_icmp_ge (pc := 12) (tgt := 59) dX2_readProduct_12 (by decide) (fun c12 => ?_) (fun c12 => ?_)
    · exact fin
    · refine J_aload_n (pc := 15) dX2_readProduct_15 rfl ?_
      refine J_cnr (pc := 16) (N := mX8_isSound) dX2_readProduct_16 ml_X2_30 cf_X8_isSound cv_X8_isSound (r_X8_isSound hu) rfl rfl (Nat.le_of_ble_eq_true rfl) (by omega) (rv_of (ci := 8) rfl rfl rfl) ?_
      refine J_ifp_eq (pc := 19) (tgt := 59) dX2_readProduct_19 (by decide) (fun c19 => ?_) (fun c19 => absurd c19 u0)
      exact fin
theorem c_readPair {g : Gp} {n : Nat} {cc : Nat → Nat} {f : Nat} (i0 : CP0 g n cc f) {S : Sx} {op b : Nat} {s s1 s2 : LgS} {u : UT} (hx : CTX S n cc) (hLL : LLa b) (h6 : op ≤ 6) (hu : UO n u) (hur : UR u s.1) (hs0 : s.1.2.1 = 0) (hI : LI n s) (hIt : LIt S b s.2) (h150 : n ≤ 150) (e1 : lp cc n f 0 op (lsg cc n 91 s) = some s1) (e2 : lp cc n f 0 op (lsg cc n 44 s1) = some s2) : RU g mX2_readPair (4 * (6 - op) + 9) [.ref b, .ref 1, .int (nI op)] (ct S u) (LRd S b n (lsg cc n 93 s2)) := by
  refine RU_ofQ ⟨rfl, rfl⟩ (Nat.le_of_ble_eq_true rfl) (fun sz Q hQ => ?_)
  obtain ⟨S', hT⟩ := TX_of hx
  have hln : LLn S b := LIt_L hIt (by have := hI.2 hs0; have := hI.1.1; omega)
  have a0 := LT_sg hT (s := s) hI.1 (c := 91) (by decide)
  have a1 := LT_lp hT f 0 op _ s1 a0.1 e1
  have a2 := LT_sg hT (s := s1) a1.1 (c := 44) (by decide)
  have a3 := LT_lp hT f 0 op _ s2 a2.1 e2
  have I0 := LT_LI a0 hI
  have I1 := LT_LI a1 I0
  have I2 := LT_LI a2 I1
  have uA : UO n (udm cc n 91 u) := UO_dm hx hu (by decide)
  have rA : UR (udm cc n 91 u) (lsg cc n 91 s).1 := UR_dm hur
  have c3 : ∀ Y' u', UO n u' → UR u' s2.1 → FRC (lwF b) (lwA b) S Y' → LLn Y' b → (s2.1.2.1 = 0 → LIt Y' b s2.2) → J g mX2_readPair (4 * (6 - op) + 9) [] 38 [some (.ref b), some (.ref 1), some (.int (nI op))] [] (hs (ct Y' u')) sz 0 0 Q := by
    intro Y' u' hu' hur' hfr' hln' hit'
    have hx' := CTX_F hfr' (lwF_1 hLL) (lwA_2 hLL) hx
    refine J_aload_n (pc := 38) dX2_readPair_38 rfl ?_
    refine J_bipush (pc := 39) (v := 93) dX2_readPair_39 (by decide) ?_
    refine J_cnv (pc := 41) (N := mX8_demand) dX2_readPair_41 ml_X2_75 cf_X8_demand cv_X8_demand (r_X8_demand (c := 93) hx' hu' (by decide)) rfl rfl (Nat.le_of_ble_eq_true rfl) (by omega) (rv_of (ci := 8) rfl rfl rfl) ?_
    exact J_ret (pc := 44) rfl rfl dX2_readPair_44 (hQ _ ⟨Y', _, rfl, UO_dm hx' hu' (by decide), UR_dm hur', hfr', hln', fun z => hit' (psg_ok z).1⟩)
  have c2 : ∀ Y' u', UO n u' → UR u' s1.1 → FRC (lwF b) (lwA b) S Y' → LLn Y' b → (s1.1.2.1 = 0 → LIt Y' b s1.2) → J g mX2_readPair (4 * (6 - op) + 9) [] 19 [some (.ref b), some (.ref 1), some (.int (nI op))] [] (hs (ct Y' u')) sz 0 0 Q := by
    intro Y' u' hu' hur' hfr' hln' hit'
    have hx' := CTX_F hfr' (lwF_1 hLL) (lwA_2 hLL) hx
    have uB : UO n (udm cc n 44 u') := UO_dm hx' hu' (by decide)
    have rB : UR (udm cc n 44 u') (lsg cc n 44 s1).1 := UR_dm hur'
    refine J_aload_n (pc := 19) dX2_readPair_19 rfl ?_
    refine J_bipush (pc := 20) (v := 44) dX2_readPair_20 (by decide) ?_
    refine J_cnv (pc := 22) (N := mX8_demand) dX2_readPair_22 ml_X2_75 cf_X8_demand cv_X8_demand (r_X8_demand (c := 44) hx' hu' (by decide)) rfl rfl (Nat.le_of_ble_eq_true rfl) (by omega) (rv_of (ci := 8) rfl rfl rfl) ?_
    refine J_aload_n (pc := 25) dX2_readPair_25 rfl ?_
    refine J_cnr (pc := 26) (N := mX8_isSound) dX2_readPair_26 ml_X2_30 cf_X8_isSound cv_X8_isSound (r_X8_isSound uB) rfl rfl (Nat.le_of_ble_eq_true rfl) (by omega) (rv_of (ci := 8) rfl rfl rfl) ?_
    refine J_ifp_eq (pc := 29) (tgt := 38) dX2_readPair_29 (by decide) (fun c29 => ?_) (fun c29 => ?_)
    · have q0 : (lsg cc n 44 s1).1.2.1 ≠ 0 := fun z => c29 (UR_0 rB z)
      have := lp_no f 0 op _ s2 q0 e2
      subst this
      exact c3 Y' _ uB rB hfr' hln' (fun z => absurd z q0)
    · have q0 : (lsg cc n 44 s1).1.2.1 = 0 := UR_s rB c29
      refine J_aload_n (pc := 32) dX2_readPair_32 rfl ?_
      refine J_aload_n (pc := 33) dX2_readPair_33 rfl ?_
      refine J_iload_n (pc := 34) dX2_readPair_34 rfl ?_
      refine J_cvU (pc := 35) (N := mX2_readSum) dX2_readPair_35 ml_X2_26 cf_X2_readSum cv_X2_readSum (i0 Y' op b (lsg cc n 44 s1) s2 _ hx' hLL h6 uB rB q0 I2 (hit' (psg_ok q0).1) e2) rfl rfl (Nat.le_of_ble_eq_true rfl) (by omega) (rv_of (ci := 2) (by first | exact law_n (by assumption) | rfl) rfl rfl) ?_
      intro X35 hX35
      obtain ⟨Y2, u2, rfl, hu2, hur2, hfr2, hln2, hit2⟩ := hX35
      exact c3 Y2 u2 hu2 hur2 (FRC_t hfr' hfr2) hln2 hit2
  refine J_aload_n (pc := 0) dX2_readPair_0 rfl ?_
  refine J_bipush (pc := 1) (v := 91) dX2_readPair_1 (by decide) ?_
  refine J_cnv (pc := 3) (N := mX8_demand) dX2_readPair_3 ml_X2_75 cf_X8_demand cv_X8_demand (r_X8_demand (c := 91) hx hu (by decide)) rfl rfl (Nat.le_of_ble_eq_true rfl) (by omega) (rv_of (ci := 8) rfl rfl rfl) ?_
  refine J_aload_n (pc := 6) dX2_readPair_6 rfl ?_
  refine J_cnr (pc := 7) (N := mX8_isSound) dX2_readPair_7 ml_X2_30 cf_X8_isSound cv_X8_isSound (r_X8_isSound uA) rfl rfl (Nat.le_of_ble_eq_true rfl) (by omega) (rv_of (ci := 8) rfl rfl rfl) ?_
  refine J_ifp_eq (pc := 10) (tgt := 19) dX2_readPair_10 (by decide) (fun c10 => ?_) (fun c10 => ?_)
  · have q0 : (lsg cc n 91 s).1.2.1 ≠ 0 := fun z => c10 (UR_0 rA z)
    have := lp_no f 0 op _ s1 q0 e1
    subst this
    exact c2 S _ uA rA (FRC_r _ _ _) hln (fun z => absurd z q0)
  · have q0 : (lsg cc n 91 s).1.2.1 = 0 := UR_s rA c10
    refine J_aload_n (pc := 13) dX2_readPair_13 rfl ?_
    refine J_aload_n (pc := 14) dX2_readPair_14 rfl ?_
    refine J_iload_n (pc := 15) dX2_readPair_15 rfl ?_
    refine J_cvU (pc := 16) (N := mX2_readSum) dX2_readPair_16 ml_X2_26 cf_X2_readSum cv_X2_readSum (i0 S op b (lsg cc n 91 s) s1 _ hx hLL h6 uA rA q0 I0 hIt e1) rfl rfl (Nat.le_of_ble_eq_true rfl) (by omega) (rv_of (ci := 2) (by first | exact law_n (by assumption) | rfl) rfl rfl) ?_
    intro X16 hX16
    obtain ⟨Y2, u2, rfl, hu2, hur2, hfr2, hln2, hit2⟩ := hX16
    exact c2 Y2 u2 hu2 hur2 hfr2 hln2 hit2
theorem cp_s2 {g : Gp} {n : Nat} {cc : Nat → Nat} {f : Nat} (h150 : n ≤ 150) (i0 : CP0 g n cc f) : CP2 g n cc (f + 1) := by
  intro S op b s r u hx hLL h6 hu hur hs0 hI hIt h
  have h : lpOne cc n (lp cc n f) op s = some r := h
  unfold lpOne at h
  rw [if_neg (fun z => z hs0)] at h
  refine RU_ofQ ⟨rfl, rfl⟩ (Nat.le_of_ble_eq_true rfl) (fun sz Q hQ => ?_)
  obtain ⟨S', hT⟩ := TX_of hx
  have h1 := LLa_1 hLL
  have hn9 := hx.2.2.2 n (Nat.le_refl _)
  have u0 := UR_0 hur hs0
  have eu : u.1 = s.1.1 := hur.2.2 hs0
  have hle := pbl_le cc hI.1.1
  have hpp := pbl_pbl hn9 hI.1.1
  have hpg := pbl_ge cc n s.1.1
  obtain ⟨b0, hb0⟩ : ∃ b0, pbl cc n s.1.1 = b0 := ⟨_, rfl⟩
  rw [hb0] at h hle hpp hpg
  have hsl := hI.2 hs0
  have hsn := hI.1.1
  have hln : LLn S b := LIt_L hIt (by omega)
  have hl8 : sf S b 2 = nI s.2.length := hIt.1
  have enx : unx cc n u = (b0, b0, u.2.2) := by unfold unx; rw [eu, hb0]
  have uN : UO n (b0, b0, u.2.2) := ⟨hle, Nat.le_refl _, hu.2.2⟩
  have rN : UR (b0, b0, u.2.2) (b0, s.1.2) := ⟨hur.1, hur.2.1, fun _ => rfl⟩
  have ptk0 : PO n ((b0, s.1.2) : PT) := ⟨hle, hI.1.2⟩
  refine J_aload_n (pc := 0) dX2_readUnit_0 rfl ?_
  refine J_aload_n (pc := 1) dX2_readUnit_1 rfl ?_
  refine J_cnr (pc := 2) (N := mX8_next) dX2_readUnit_2 ml_X2_36 cf_X8_next cv_X8_next (r_X8_next hx hu) rfl rfl (Nat.le_of_ble_eq_true rfl) (by omega) (rv_of (ci := 8) rfl rfl rfl) ?_
  rw [enx, eu, hb0]
  refine J_cnr (pc := 5) (N := mX8_isDigit) dX2_readUnit_5 ml_X2_61 cf_X8_isDigit cv_X8_isDigit r_X8_isDigit rfl rfl (Nat.le_of_ble_eq_true rfl) (by omega) (rv_of (ci := 8) rfl rfl rfl) ?_
  refine J_ifp_eq (pc := 8) (tgt := 26) dX2_readUnit_8 (by decide) (fun c8 => ?_) (fun c8 => ?_)
  · have hd : ¬ isD (cc b0) = true := fun q => c8 ((bv_D (CTX_le hx _)).mpr q)
    refine J_aload_n (pc := 26) dX2_readUnit_26 rfl ?_
    refine J_ldcs (pc := 27) (i := 3) dX2_readUnit_27 rfl rfl ?_
    refine J_cnr (pc := 29) (N := mX8_takeOne) dX2_readUnit_29 ml_X2_52 cf_X8_takeOne cv_X8_takeOne (r_X8_takeOne hx uN (i := 2) (by decide)) rfl rfl (Nat.le_of_ble_eq_true rfl) (by omega) (rv_of (ci := 8) rfl rfl rfl) ?_
    have hut : utk cc n (sgs 3) (b0, b0, u.2.2) = match sg3 (cc b0) with
        | some k => (some k, (b0 + 1, b0, u.2.2))
        | none => (none, (b0, b0, u.2.2)) := by
      unfold utk unx
      rw [hpp]
      rfl
    have hutO := UO_tk hx uN (i := 2) (by decide)
    rw [show sgs (2 + 1) = sgs 3 from rfl] at hutO ⊢
    rw [hut] at hutO ⊢
    by_cases h40 : cc b0 = 40
    · have esg : sg3 (cc b0) = some 0 := if_pos h40
      rw [esg] at hutO ⊢
      have hutO : UO n (b0 + 1, b0, u.2.2) := hutO
      obtain ⟨wa, wb⟩ := w4_n2 (w4_no (cc := cc) (n := n) (b := b0) (by omega))
      rw [wa] at h
      have h : (if cc b0 = 40 then (if op = 6 then some ((b0, 3, b0), s.2) else (lp cc n f 0 (op + 1) ((b0 + 1, s.1.2), s.2)).bind fun s1 => some (lsg cc n 41 s1)) else match wix cc n b0 wLaw 0 with
        | some k => some (nt 1 k ((pwe cc n b0, s.1.2), s.2))
        | none => some (nt 0 (pnum cc n 0 1000 (b0, s.1.2)).1 ((pnum cc n 0 1000 (b0, s.1.2)).2, s.2))) = some r := h
      rw [if_pos h40] at h
      by_cases q6 : op = 6
      · rw [if_pos q6] at h
        cases h
        refine J_iconst (pc := 32) (v := -1) dX2_readUnit_32 (by decide) ?_
        refine J_icmp_eq (pc := 33) (tgt := 62) dX2_readUnit_33 (by decide) (fun c33 => absurd c33 (nI_nm (k := 0) (by decide))) (fun c33 => ?_)
        refine J_aload_n (pc := 36) dX2_readUnit_36 rfl ?_
        refine J_aload_n (pc := 37) dX2_readUnit_37 rfl ?_
        refine J_iload_n (pc := 38) dX2_readUnit_38 rfl ?_
        refine J_cvr (pc := 39) (N := mX2_mayOpen) dX2_readUnit_39 ml_X2_71 cf_X2_mayOpen cv_X2_mayOpen (r_X2_mayOpen hutO h6) rfl rfl (Nat.le_of_ble_eq_true rfl) (by omega) (rv_of (ci := 2) (by first | exact law_n (by assumption) | rfl) rfl rfl) ?_
        refine J_ifp_eq (pc := 42) (tgt := 121) dX2_readUnit_42 (by decide) (fun c42 => ?_) (fun c42 => absurd (show op < 6 from c42) (by omega))
        exact J_ret rfl rfl dX2_readUnit_121 (by
          rw [if_neg (by omega)]
          exact hQ _ ⟨S, _, rfl, UO_um hutO (by decide) hle, by unfold um; rw [if_pos (show u.2.2.1 = 0 from u0)]; exact ⟨rfl, fun _ => rfl, fun z => absurd z (Nat.succ_ne_zero 2)⟩, FRC_r _ _ _, hln, fun z => absurd z (Nat.succ_ne_zero 2)⟩)
      · rw [if_neg q6] at h
        obtain ⟨s1, e1, e2⟩ := Option.bind_eq_some_iff.mp h
        have e2 : some (lsg cc n 41 s1) = some r := e2
        cases e2
        have hblt : b0 + 1 ≤ n := hutO.1
        have I0 : LI n ((b0 + 1, s.1.2), s.2) := ⟨⟨hblt, hI.1.2⟩, fun _ => by show s.2.length ≤ b0 + 1; omega⟩
        have a1 := LT_lp hT f 0 (op + 1) _ s1 I0.1 e1
        refine J_iconst (pc := 32) (v := -1) dX2_readUnit_32 (by decide) ?_
        refine J_icmp_eq (pc := 33) (tgt := 62) dX2_readUnit_33 (by decide) (fun c33 => absurd c33 (nI_nm (k := 0) (by decide))) (fun c33 => ?_)
        refine J_aload_n (pc := 36) dX2_readUnit_36 rfl ?_
        refine J_aload_n (pc := 37) dX2_readUnit_37 rfl ?_
        refine J_iload_n (pc := 38) dX2_readUnit_38 rfl ?_
        refine J_cvr (pc := 39) (N := mX2_mayOpen) dX2_readUnit_39 ml_X2_71 cf_X2_mayOpen cv_X2_mayOpen (r_X2_mayOpen hutO h6) rfl rfl (Nat.le_of_ble_eq_true rfl) (by omega) (rv_of (ci := 2) (by first | exact law_n (by assumption) | rfl) rfl rfl) ?_
        rw [if_pos (show op < 6 by omega)]
        refine J_ifp_eq (pc := 42) (tgt := 121) dX2_readUnit_42 (by decide) (fun c42 => absurd (show op < 6 by omega) c42) (fun c42 => ?_)
        refine J_aload_n (pc := 45) dX2_readUnit_45 rfl ?_
        refine J_aload_n (pc := 46) dX2_readUnit_46 rfl ?_
        refine J_iload_n (pc := 47) dX2_readUnit_47 rfl ?_
        refine J_iconst (pc := 48) (v := 1) dX2_readUnit_48 (by decide) ?_
        refine J_iadd (pc := 49) dX2_readUnit_49 ?_
        rw [nI_1]
        refine J_cvU (pc := 50) (N := mX2_readSum) dX2_readUnit_50 ml_X2_26 cf_X2_readSum cv_X2_readSum (i0 S (op + 1) b ((b0 + 1, s.1.2), s.2) s1 _ hx hLL (by omega) hutO ⟨hur.1, hur.2.1, fun _ => rfl⟩ hs0 I0 hIt e1) rfl rfl (Nat.le_of_ble_eq_true rfl) (by omega) (rv_of (ci := 2) (by first | exact law_n (by assumption) | rfl) rfl rfl) ?_
        intro X50 hX50
        obtain ⟨Y2, u2, rfl, hu2, hur2, hfr2, hln2, hit2⟩ := hX50
        have hx2 := CTX_F hfr2 (lwF_1 hLL) (lwA_2 hLL) hx
        refine J_aload_n (pc := 53) dX2_readUnit_53 rfl ?_
        refine J_bipush (pc := 54) (v := 41) dX2_readUnit_54 (by decide) ?_
        refine J_cnv (pc := 56) (N := mX8_demand) dX2_readUnit_56 ml_X2_75 cf_X8_demand cv_X8_demand (r_X8_demand (c := 41) hx2 hu2 (by decide)) rfl rfl (Nat.le_of_ble_eq_true rfl) (by omega) (rv_of (ci := 8) rfl rfl rfl) ?_
        refine J_goto (pc := 59) (tgt := 121) dX2_readUnit_59 (by decide) ?_
        exact J_ret (pc := 121) rfl rfl dX2_readUnit_121 (hQ _ ⟨Y2, _, rfl, UO_dm hx2 hu2 (by decide), UR_dm hur2, hfr2, hln2, fun z => hit2 (psg_ok z).1⟩)
    · have esg : sg3 (cc b0) = none := if_neg h40
      rw [esg] at hutO ⊢
      obtain ⟨w0, hw0⟩ : ∃ w0, pwe cc n b0 = w0 := ⟨_, rfl⟩
      have wg : b0 ≤ w0 := by rw [← hw0]; exact pwe_ge cc n b0
      have wl : w0 ≤ n := by rw [← hw0]; exact pwe_le cc hle
      have hU : UO n (w0, b0, u.2.2) := ⟨wl, wg, hu.2.2⟩
      have hwd : uwd cc n (wds 4) (b0, b0, u.2.2) = (match wix cc n b0 (wds 4) 0 with
        | some k => (some k, (w0, b0, u.2.2))
        | none => (none, um 1 b0 (w0, b0, u.2.2))) := by
        unfold uwd
        rw [hpp, hw0]
        rfl
      rw [hw0] at h
      refine J_iconst (pc := 32) (v := -1) dX2_readUnit_32 (by decide) ?_
      refine J_icmp_eq (pc := 33) (tgt := 62) dX2_readUnit_33 (by decide) (fun c33 => ?_) (fun c33 => absurd rfl c33)
      refine J_aload_n (pc := 62) dX2_readUnit_62 rfl ?_
      refine J_ldcs (pc := 63) (i := 4) dX2_readUnit_63 rfl rfl ?_
      refine J_cnr (pc := 65) (N := mX8_word) dX2_readUnit_65 ml_X2_81 cf_X8_word cv_X8_word (r_X8_word hx uN (i := 4) (by decide) pok_4) rfl rfl (Nat.le_of_ble_eq_true rfl) (by omega) (rv_of (ci := 8) rfl rfl rfl) ?_
      rw [hwd]
      rw [w4]
      cases hk : wix cc n b0 wLM 7 with
      | some k =>
        rw [hk] at h
        have hk9 := wix_lt hk
        have hk9 : 7 ≤ k ∧ k < 9 := hk9
        have h3 := wix_3 (by decide) hk
        rw [hw0] at h3
        have h : (if op = 6 then some ((b0, 3, b0), s.2) else
          (lp cc n f 0 (op + 1) (lsg cc n 91 ((w0, s.1.2), s.2))).bind fun s1 => (lp cc n f 0 (op + 1) (lsg cc n 44 s1)).bind fun s2 => some (nt k 0 (lsg cc n 93 s2))) = some r := h
        refine J_cg2 (S' := ct S (w0, b0, u.2.2)) rfl ?_
        refine J_t1 (y := nI (k + 1)) rfl ?_
        by_cases q6 : op = 6
        · rw [if_pos q6] at h
          cases h
          refine J_istore_n (pc := 68) dX2_readUnit_68 (by decide) rfl ?_
          refine J_iload_n (pc := 69) dX2_readUnit_69 rfl ?_
          refine J_bipush (pc := 70) (v := 8) dX2_readUnit_70 (by decide) ?_
          refine J_icmp_lt (pc := 72) (tgt := 107) dX2_readUnit_72 (by decide) (fun c72 => absurd c72 (Int32.not_lt.mpr (nI_le (a := 8) (by omega) (by omega)))) (fun c72 => ?_)
          refine J_aload_n (pc := 75) dX2_readUnit_75 rfl ?_
          refine J_aload_n (pc := 76) dX2_readUnit_76 rfl ?_
          refine J_iload_n (pc := 77) dX2_readUnit_77 rfl ?_
          refine J_cvr (pc := 78) (N := mX2_mayOpen) dX2_readUnit_78 ml_X2_71 cf_X2_mayOpen cv_X2_mayOpen (r_X2_mayOpen hU h6) rfl rfl (Nat.le_of_ble_eq_true rfl) (by omega) (rv_of (ci := 2) (by first | exact law_n (by assumption) | rfl) rfl rfl) ?_
          refine J_ifp_eq (pc := 81) (tgt := 121) dX2_readUnit_81 (by decide) (fun c81 => ?_) (fun c81 => absurd (show op < 6 from c81) (by omega))
          exact J_ret rfl rfl dX2_readUnit_121 (by
            rw [if_neg (by omega)]
            exact hQ _ ⟨S, _, rfl, UO_um hU (by decide) hle, by unfold um; rw [if_pos (show u.2.2.1 = 0 from u0)]; exact ⟨rfl, fun _ => rfl, fun z => absurd z (Nat.succ_ne_zero 2)⟩, FRC_r _ _ _, hln, fun z => absurd z (Nat.succ_ne_zero 2)⟩)
        · rw [if_neg q6] at h
          obtain ⟨s1, e1, e2⟩ := Option.bind_eq_some_iff.mp h
          obtain ⟨s2, e3, e4⟩ := Option.bind_eq_some_iff.mp e2
          have e4 : some (nt k 0 (lsg cc n 93 s2)) = some r := e4
          cases e4
          have p0 : PO n ((w0, s.1.2) : PT) := ⟨wl, hI.1.2⟩
          have I0 : LI n ((w0, s.1.2), s.2) := ⟨p0, fun _ => by show s.2.length ≤ w0; omega⟩
          have a0 := LT_sg hT (s := ((w0, s.1.2), s.2)) p0 (c := 91) (by decide)
          have a1 := LT_lp hT f 0 (op + 1) _ s1 a0.1 e1
          have a2 := LT_sg hT (s := s1) a1.1 (c := 44) (by decide)
          have a3 := LT_lp hT f 0 (op + 1) _ s2 a2.1 e3
          have a4 := LT_sg hT (s := s2) a3.1 (c := 93) (by decide)
          have a5 := LT_nt (u := s) (LT_t a0 (LT_t a1 (LT_t a2 (LT_t a3 a4)))) (by show s.1.1 + 1 ≤ w0; omega) rfl hs0 k 0
          have I5 := LT_LI a5 hI
          have I4 := LT_LI (LT_t a0 (LT_t a1 (LT_t a2 (LT_t a3 a4)))) I0
          refine J_istore_n (pc := 68) dX2_readUnit_68 (by decide) rfl ?_
          refine J_iload_n (pc := 69) dX2_readUnit_69 rfl ?_
          refine J_bipush (pc := 70) (v := 8) dX2_readUnit_70 (by decide) ?_
          refine J_icmp_lt (pc := 72) (tgt := 107) dX2_readUnit_72 (by decide) (fun c72 => absurd c72 (Int32.not_lt.mpr (nI_le (a := 8) (by omega) (by omega)))) (fun c72 => ?_)
          refine J_aload_n (pc := 75) dX2_readUnit_75 rfl ?_
          refine J_aload_n (pc := 76) dX2_readUnit_76 rfl ?_
          refine J_iload_n (pc := 77) dX2_readUnit_77 rfl ?_
          refine J_cvr (pc := 78) (N := mX2_mayOpen) dX2_readUnit_78 ml_X2_71 cf_X2_mayOpen cv_X2_mayOpen (r_X2_mayOpen hU h6) rfl rfl (Nat.le_of_ble_eq_true rfl) (by omega) (rv_of (ci := 2) (by first | exact law_n (by assumption) | rfl) rfl rfl) ?_
          rw [if_pos (show op < 6 by omega)]
          refine J_ifp_eq (pc := 81) (tgt := 121) dX2_readUnit_81 (by decide) (fun c81 => absurd (show op < 6 by omega) c81) (fun c81 => ?_)
          refine J_aload_n (pc := 84) dX2_readUnit_84 rfl ?_
          refine J_aload_n (pc := 85) dX2_readUnit_85 rfl ?_
          refine J_iload_n (pc := 86) dX2_readUnit_86 rfl ?_
          refine J_iconst (pc := 87) (v := 1) dX2_readUnit_87 (by decide) ?_
          refine J_iadd (pc := 88) dX2_readUnit_88 ?_
          rw [nI_1]
          refine J_cvU (pc := 89) (N := mX2_readPair) dX2_readUnit_89 ml_X2_84 cf_X2_readPair cv_X2_readPair (c_readPair i0 (op := op + 1) (s := ((w0, s.1.2), s.2)) hx hLL (by omega) hU ⟨hur.1, hur.2.1, fun _ => rfl⟩ hs0 I0 hIt h150 e1 e3) rfl rfl (Nat.le_of_ble_eq_true rfl) (by omega) (rv_of (ci := 2) (by first | exact law_n (by assumption) | rfl) rfl rfl) ?_
          intro X89 hX89
          obtain ⟨Y2, u2, rfl, hu2, hur2, hfr2, ⟨m, hm, hln2⟩, hit2⟩ := hX89
          refine J_aload_n (pc := 92) dX2_readUnit_92 rfl ?_
          refine J_sipush (pc := 93) (v := 2005) dX2_readUnit_93 (by decide) ?_
          refine J_iload_n (pc := 96) dX2_readUnit_96 rfl ?_
          refine J_iadd (pc := 97) dX2_readUnit_97 ?_
          refine J_t1 (y := nI (2005 + (k + 1))) (nI_add 2005 (k + 1)) ?_
          refine J_bipush (pc := 98) (v := 8) dX2_readUnit_98 (by decide) ?_
          refine J_isub (pc := 100) dX2_readUnit_100 ?_
          refine J_t1 (y := nI (enc (k, 0))) (by rw [show (8 : Int32) = nI 8 from rfl, nI_subn (by omega)]; unfold enc; rw [if_neg (by show ¬ k = 0; omega), if_neg (by show ¬ k = 1; omega)]; congr 1; show 2005 + (k + 1) - 8 = 1998 + k; omega) ?_
          refine J_cvv (pc := 101) (N := mX2_add) dX2_readUnit_101 ml_X2_22 cf_X2_add cv_X2_add (r_X2_add hLL hm ((ct_o h1).trans hln2)) rfl rfl (Nat.le_of_ble_eq_true rfl) (by omega) (rv_of (ci := 2) (by first | exact law_n (by assumption) | rfl) rfl rfl) ?_
          rw [ad_ct h1]
          refine J_goto (pc := 104) (tgt := 121) dX2_readUnit_104 (by decide) ?_
          exact J_ret rfl rfl dX2_readUnit_121 (hQ _ ⟨_, _, rfl, hu2, hur2, ad_F hfr2, ad_L hm hln2, fun z => by
            have z : (lsg cc n 93 s2).1.2.1 = 0 := z
            have lit := hit2 z
            have em : m = (lsg cc n 93 s2).2.length := nI_eq_m (by omega) (by have := I4.2 z; have := I4.1.1; omega) (hln2.symm.trans lit.1)
            subst em
            have e3 : (nt k 0 (lsg cc n 93 s2)).2 = (lsg cc n 93 s2).2 ++ [(k, 0)] := if_pos z
            have hz := I5.2 z
            rw [e3, len1] at hz
            have hz1 : (lsg cc n 93 s2).2.length + 1 ≤ (lsg cc n 93 s2).1.1 := hz
            have hz2 := I4.1.1
            rw [e3]
            exact ad_I lit (by omega) _⟩)
      | none =>
        rw [hk] at h
        have h : (if cc b0 = 40 then (if op = 6 then some ((b0, 3, b0), s.2) else (lp cc n f 0 (op + 1) ((b0 + 1, s.1.2), s.2)).bind fun s1 => some (lsg cc n 41 s1)) else match wix cc n b0 wLaw 0 with
          | some k => some (nt 1 k ((w0, s.1.2), s.2))
          | none => some (nt 0 (pnum cc n 0 1000 (b0, s.1.2)).1 ((pnum cc n 0 1000 (b0, s.1.2)).2, s.2))) = some r := h
        rw [if_neg h40] at h
        show J g mX2_readUnit (4 * (6 - op) + 6) [] 68 _ (.int (ov (match wix cc n b0 wLaw 0 with
          | some k => (some k, (w0, b0, u.2.2))
          | none => (none, um 1 b0 (w0, b0, u.2.2))).1) :: []) (hs (ct S (match wix cc n b0 wLaw 0 with
          | some k => (some k, (w0, b0, u.2.2))
          | none => (none, um 1 b0 (w0, b0, u.2.2))).2)) sz 0 0 Q
        cases hj : wix cc n b0 wLaw 0 with
        | some k =>
          rw [hj] at h
          have h : some (nt 1 k ((w0, s.1.2), s.2)) = some r := h
          cases h
          have k8 : k < 8 := (wix_lt hj).2
          have h3 := wix_3 (by decide) hj
          rw [hw0] at h3
          refine J_cg2 (S' := ct S (w0, b0, u.2.2)) rfl ?_
          refine J_t1 (y := nI k) rfl ?_
          refine J_istore_n (pc := 68) dX2_readUnit_68 (by decide) rfl ?_
          refine J_iload_n (pc := 69) dX2_readUnit_69 rfl ?_
          refine J_bipush (pc := 70) (v := 8) dX2_readUnit_70 (by decide) ?_
          refine J_icmp_lt (pc := 72) (tgt := 107) dX2_readUnit_72 (by decide) (fun c72 => ?_) (fun c72 => absurd (nI_lt (b := 8) k8 (by decide)) c72)
          refine J_iload_n (pc := 107) dX2_readUnit_107 rfl ?_
          refine J_iconst (pc := 108) (v := -1) dX2_readUnit_108 (by decide) ?_
          refine J_icmp_eq (pc := 109) (tgt := 121) dX2_readUnit_109 (by decide) (fun c109 => absurd c109 (nI_nm (k := k) (by omega))) (fun c109 => ?_)
          refine J_aload_n (pc := 112) dX2_readUnit_112 rfl ?_
          refine J_sipush (pc := 113) (v := 1000) dX2_readUnit_113 (by decide) ?_
          refine J_iload_n (pc := 116) dX2_readUnit_116 rfl ?_
          refine J_iadd (pc := 117) dX2_readUnit_117 ?_
          refine J_t1 (y := nI (enc (1, k))) (nI_add 1000 k) ?_
          refine J_cvv (pc := 118) (N := mX2_add) dX2_readUnit_118 ml_X2_22 cf_X2_add cv_X2_add (r_X2_add hLL (show s.2.length ≤ 150 by omega) ((ct_o h1).trans hl8)) rfl rfl (Nat.le_of_ble_eq_true rfl) (by omega) (rv_of (ci := 2) (by first | exact law_n (by assumption) | rfl) rfl rfl) ?_
          rw [ad_ct h1]
          exact J_ret rfl rfl dX2_readUnit_121 (hQ _ ⟨_, _, rfl, hU, ⟨hur.1, hur.2.1, fun _ => rfl⟩, ad_F (FRC_r _ _ _), ad_L (by omega) hl8, fun z => by
            have z : s.1.2.1 = 0 := z
            rw [show (nt 1 k ((w0, s.1.2), s.2)).2 = s.2 ++ [(1, k)] from if_pos z]
            exact ad_I hIt (by omega) (1, k)⟩)
        | none =>
          rw [hj] at h
          have hpn : pnum cc n 0 1000 (b0, s.1.2) = (0, (b0, 1, b0)) := by
            unfold pnum
            rw [if_neg (fun z => z hs0), hpp, if_neg hd]
          have h : some (nt 0 (pnum cc n 0 1000 (b0, s.1.2)).1 ((pnum cc n 0 1000 (b0, s.1.2)).2, s.2)) = some r := h
          rw [hpn] at h
          cases h
          refine J_cg2 (S' := ct S (um 1 b0 (w0, b0, u.2.2))) rfl ?_
          refine J_t1 (y := -1) rfl ?_
          refine J_istore_n (pc := 68) dX2_readUnit_68 (by decide) rfl ?_
          refine J_iload_n (pc := 69) dX2_readUnit_69 rfl ?_
          refine J_bipush (pc := 70) (v := 8) dX2_readUnit_70 (by decide) ?_
          refine J_icmp_lt (pc := 72) (tgt := 107) dX2_readUnit_72 (by decide) (fun c72 => ?_) (fun c72 => absurd (by decide) c72)
          refine J_iload_n (pc := 107) dX2_readUnit_107 rfl ?_
          refine J_iconst (pc := 108) (v := -1) dX2_readUnit_108 (by decide) ?_
          refine J_icmp_eq (pc := 109) (tgt := 121) dX2_readUnit_109 (by decide) (fun c109 => ?_) (fun c109 => absurd rfl c109)
          exact J_ret (pc := 121) rfl rfl dX2_readUnit_121 (hQ _ ⟨S, _, rfl, UO_um hU (by decide) hle, by unfold um; rw [if_pos (show u.2.2.1 = 0 from u0)]; exact ⟨rfl, fun _ => rfl, fun z => absurd z (Nat.succ_ne_zero 0)⟩, FRC_r _ _ _, hln, fun z => absurd z (Nat.succ_ne_zero 0)⟩)
  · have hd : isD (cc b0) = true := (bv_D (CTX_le hx _)).mp c8
    have w97 : cc b0 < 97 := by have := (of_decide_eq_true hd : 48 ≤ cc b0 ∧ cc b0 ≤ 57); omega
    have hd2 : 48 ≤ cc b0 ∧ cc b0 ≤ 57 := of_decide_eq_true hd
    obtain ⟨wa, wb⟩ := w4_n2 (w4_no (n := n) w97)
    rw [wa] at h
    have h : (if cc b0 = 40 then (if op = 6 then some ((b0, 3, b0), s.2) else (lp cc n f 0 (op + 1) ((b0 + 1, s.1.2), s.2)).bind fun s1 => some (lsg cc n 41 s1)) else match wix cc n b0 wLaw 0 with
      | some k => some (nt 1 k ((pwe cc n b0, s.1.2), s.2))
      | none => some (nt 0 (pnum cc n 0 1000 (b0, s.1.2)).1 ((pnum cc n 0 1000 (b0, s.1.2)).2, s.2))) = some r := h
    rw [if_neg (by omega), wb] at h
    have h : some (nt 0 (pnum cc n 0 1000 (b0, s.1.2)).1 ((pnum cc n 0 1000 (b0, s.1.2)).2, s.2)) = some r := h
    cases h
    have r1 := UR_nm (cc := cc) (n := n) (lo := 0) (hi := 1000) rN (by decide)
    refine J_aload_n (pc := 11) dX2_readUnit_11 rfl ?_
    refine J_aload_n (pc := 12) dX2_readUnit_12 rfl ?_
    refine J_iconst (pc := 13) (v := 0) dX2_readUnit_13 (by decide) ?_
    refine J_sipush (pc := 14) (v := 999) dX2_readUnit_14 (by decide) ?_
    refine J_cnr (pc := 17) (N := mX8_number) dX2_readUnit_17 ml_X2_65 cf_X8_number cv_X8_number (r_X8_number (lo := 0) (hi := 1000) hx uN rfl rfl (by decide) (by decide)) rfl rfl (Nat.le_of_ble_eq_true rfl) (by omega) (rv_of (ci := 8) rfl rfl rfl) ?_
    refine J_cvv (pc := 20) (N := mX2_add) dX2_readUnit_20 ml_X2_22 cf_X2_add cv_X2_add (r_X2_add hLL (show s.2.length ≤ 150 by omega) ((ct_o h1).trans hl8)) rfl rfl (Nat.le_of_ble_eq_true rfl) (by omega) (rv_of (ci := 2) (by first | exact law_n (by assumption) | rfl) rfl rfl) ?_
    rw [ad_ct h1]
    refine J_goto (pc := 23) (tgt := 121) dX2_readUnit_23 (by decide) ?_
    exact J_ret rfl rfl dX2_readUnit_121 (hQ _ ⟨_, _, rfl, UO_nm uN, r1.1, ad_F (FRC_r _ _ _), ad_L (by omega) hl8, fun z => by
      have z : (pnum cc n 0 1000 (b0, s.1.2)).2.2.1 = 0 := z
      have hz := pnum_ok hn9 hle z
      have hz3 : b0 + 1 ≤ (pnum cc n 0 1000 (b0, s.1.2)).2.1 := hz.2.2.1
      have hz4 := (PO_num hT ptk0 0 1000).1
      rw [r1.2 z, show (nt 0 (pnum cc n 0 1000 (b0, s.1.2)).1 ((pnum cc n 0 1000 (b0, s.1.2)).2, s.2)).2 = s.2 ++ [(0, (pnum cc n 0 1000 (b0, s.1.2)).1)] from if_pos z]
      exact ad_I hIt (by omega) (0, (pnum cc n 0 1000 (b0, s.1.2)).1)⟩)
theorem CP_all {g : Gp} {n : Nat} {cc : Nat → Nat} (h150 : n ≤ 150) : ∀ f, CP0 g n cc f ∧ CP1 g n cc f ∧ CP2 g n cc f ∧ CP3 g n cc f ∧ CP4 g n cc f
  | 0 => ⟨fun S op b s r u _ _ _ _ _ _ _ _ h => (nomatch h), fun S op b s r u _ _ _ _ _ _ _ _ h => (nomatch h), fun S op b s r u _ _ _ _ _ _ _ _ h => (nomatch h), fun S Y op b i s r u l4 x sz Q _ _ _ _ _ _ _ _ _ h => (nomatch h), fun S Y op b i s r u l4 x sz Q _ _ _ _ _ _ _ _ _ h => (nomatch h)⟩
  | f + 1 => by
    obtain ⟨i0, i1, i2, i3, i4⟩ := CP_all h150 f
    exact ⟨cp_s0 h150 i1 i3, cp_s1 h150 i2 i4, cp_s2 h150 i0, cp_s3 h150 i1 i3, cp_s4 h150 i2 i4⟩
/-- where the class's reading of a law ends -/
def lwE (cc : Nat → Nat) (n : Nat) (t : PT) : PT := if t.2.1 = 0 ∧ pbl cc n t.1 < n then (pbl cc n t.1, 1, pbl cc n t.1) else t
theorem r_X2_read {g : Gp} {S : Sx} {n : Nat} {cc : Nat → Nat} (hx : CTX S n cc) {u : UT} (hu : UO n u) (h0 : u.1 = 0) (hf0 : u.2.2.1 = 0) (h150 : n ≤ 150) {b : Nat} (hLL : LLa b) {f : Nat} {r : LgS} (hr : lp cc n f 0 0 ((0, 0, 0), []) = some r) : RU g mX2_read 33 [.ref b, .ref 1] (ct S u) (fun X => ∃ Y' u', X = ct Y' u' ∧ UO n u' ∧ u'.2.2.1 = (lwR cc n r).2.1 ∧ ((lwR cc n r).2.1 ≠ 0 → u'.2.2.2 = (lwR cc n r).2.2) ∧ FRC (lwF b) (lwA b) S Y' ∧ ((lwR cc n r).2.1 = 0 → LIt Y' b r.2)) := by
  refine RU_ofQ ⟨rfl, rfl⟩ (Nat.le_of_ble_eq_true rfl) (fun sz Q hQ => ?_)
  have h1 := LLa_1 hLL
  have hx0 : CTX (sF S b 2 0) n cc := CTX_fr hx (sf_o (fun q => h1 q.1.symm)) rfl
  have fr0 : FRC (lwF b) (lwA b) S (sF S b 2 0) := FRC_F (FRC_r _ _ _) (lwF_t b)
  have it0 : LIt (sF S b 2 0) b [] := ⟨sF_s, fun k hk => absurd hk (Nat.not_lt_zero k)⟩
  have hlR : lwR cc n r = if r.1.2.1 = 0 ∧ pbl cc n r.1.1 < n then (pbl cc n r.1.1, 1, pbl cc n r.1.1) else (pbl cc n r.1.1, r.1.2) := rfl
  refine J_aload_n (pc := 0) dX2_read_0 rfl ?_
  refine J_iconst (pc := 1) (v := 0) dX2_read_1 (by decide) ?_
  refine J_puti (pc := 2) dX2_read_2 kc2 fl_X2_18 (by first | exact law_i2 (by assumption) | rfl) ⟨rfl, rfl⟩ ?_
  rw [ct_F h1]
  refine J_aload_n (pc := 5) dX2_read_5 rfl ?_
  refine J_aload_n (pc := 6) dX2_read_6 rfl ?_
  refine J_iconst (pc := 7) (v := 0) dX2_read_7 (by decide) ?_
  refine J_cvU (pc := 8) (N := mX2_readSum) dX2_read_8 ml_X2_26 cf_X2_readSum cv_X2_readSum ((CP_all h150 f).1 (sF S b 2 0) 0 b ((0, 0, 0), []) r u hx0 hLL (by decide) hu ⟨hf0, fun z => absurd rfl z, fun _ => h0⟩ rfl ⟨⟨Nat.zero_le _, Nat.zero_le _, Nat.zero_le _⟩, fun _ => Nat.le_refl _⟩ it0 hr) rfl rfl (Nat.le_of_ble_eq_true rfl) (by decide) (rv_of (ci := 2) (by first | exact law_n (by assumption) | rfl) rfl rfl) ?_
  intro X8 hX8
  obtain ⟨Y2, u2, rfl, hu2, hur2, hfr2, hln2, hit2⟩ := hX8
  have hx2 := CTX_F (FRC_t fr0 hfr2) (lwF_1 hLL) (lwA_2 hLL) hx
  have hle := pbl_le cc hu2.1
  refine J_aload_n (pc := 11) dX2_read_11 rfl ?_
  refine J_cnr (pc := 12) (N := mX8_isSound) dX2_read_12 ml_X2_30 cf_X8_isSound cv_X8_isSound (r_X8_isSound hu2) rfl rfl (Nat.le_of_ble_eq_true rfl) (by decide) (rv_of (ci := 8) rfl rfl rfl) ?_
  refine J_ifp_eq (pc := 15) (tgt := 35) dX2_read_15 (by decide) (fun c15 => ?_) (fun c15 => ?_)
  · have q0 : r.1.2.1 ≠ 0 := fun z => c15 (UR_0 hur2 z)
    rw [hlR, if_neg (fun z => q0 z.1)] at hQ
    exact J_ret (pc := 35) rfl rfl dX2_read_35 (by first | exact hQ _ ⟨Y2, _, rfl, hu2, hur2.1, hur2.2.1, FRC_t fr0 hfr2, fun z => absurd z q0⟩ | exact hQ _ ⟨Y2, _, rfl, UO_um (UO_nx hu2) (by decide) hle, by unfold um; rw [if_pos (show (unx cc n u2).2.2.1 = 0 from c15)], fun _ => by unfold um; rw [if_pos (show (unx cc n u2).2.2.1 = 0 from c15), eu], FRC_t fr0 hfr2, fun z => absurd z (Nat.succ_ne_zero 0)⟩ | exact hQ _ ⟨Y2, _, rfl, UO_nx hu2, hur2.1, hur2.2.1, FRC_t fr0 hfr2, fun z => hit2 z⟩)
  · have q0 := UR_s hur2 c15
    have eu : u2.1 = r.1.1 := hur2.2.2 q0
    refine J_aload_n (pc := 18) dX2_read_18 rfl ?_
    refine J_cnr (pc := 19) (N := mX8_next) dX2_read_19 ml_X2_36 cf_X8_next cv_X8_next (r_X8_next hx2 hu2) rfl rfl (Nat.le_of_ble_eq_true rfl) (by decide) (rv_of (ci := 8) rfl rfl rfl) ?_
    refine J_iconst (pc := 22) (v := -1) dX2_read_22 (by decide) ?_
    refine J_icmp_eq (pc := 23) (tgt := 35) dX2_read_23 (by decide) (fun c23 => ?_) (fun c23 => ?_)
    · have qn : ¬ pbl cc n r.1.1 < n := fun z => absurd c23 (by rw [eu]; unfold bv; rw [if_neg (by have := (hx.2.2.1 _ z).2; omega)]; exact nI_nm (by have := (hx.2.2.1 _ z).2; omega))
      rw [hlR, if_neg (fun z => qn z.2)] at hQ
      exact J_ret (pc := 35) rfl rfl dX2_read_35 (by first | exact hQ _ ⟨Y2, _, rfl, hu2, hur2.1, hur2.2.1, FRC_t fr0 hfr2, fun z => absurd z q0⟩ | exact hQ _ ⟨Y2, _, rfl, UO_um (UO_nx hu2) (by decide) hle, by unfold um; rw [if_pos (show (unx cc n u2).2.2.1 = 0 from c15)], fun _ => by unfold um; rw [if_pos (show (unx cc n u2).2.2.1 = 0 from c15), eu], FRC_t fr0 hfr2, fun z => absurd z (Nat.succ_ne_zero 0)⟩ | exact hQ _ ⟨Y2, _, rfl, UO_nx hu2, hur2.1, hur2.2.1, FRC_t fr0 hfr2, fun z => hit2 z⟩)
    · have qn : pbl cc n r.1.1 < n := Nat.lt_of_not_le (fun z => c23 (by rw [eu]; unfold bv; rw [if_pos (hx.2.2.2 _ z)]))
      rw [hlR, if_pos ⟨q0, qn⟩] at hQ
      refine J_aload_n (pc := 26) dX2_read_26 rfl ?_
      refine J_iconst (pc := 27) (v := 1) dX2_read_27 (by decide) ?_
      refine J_aload_n (pc := 28) dX2_read_28 rfl ?_
      refine J_getiN (pc := 29) dX2_read_29 kc8 fl_X2_40 rfl ?_
      refine J_t1 (y := nI (pbl cc n u2.1)) rfl ?_
      refine J_cnv (pc := 32) (N := mX8_mark) dX2_read_32 ml_X2_43 cf_X8_mark cv_X8_mark (r_X8_mark (k := 1) (UO_nx hu2) (by decide)) rfl rfl (Nat.le_of_ble_eq_true rfl) (by decide) (rv_of (ci := 8) rfl rfl rfl) ?_
      exact J_ret (pc := 35) rfl rfl dX2_read_35 (by first | exact hQ _ ⟨Y2, _, rfl, hu2, hur2.1, hur2.2.1, FRC_t fr0 hfr2, fun z => absurd z q0⟩ | exact hQ _ ⟨Y2, _, rfl, UO_um (UO_nx hu2) (by decide) hle, by unfold um; rw [if_pos (show (unx cc n u2).2.2.1 = 0 from c15)], fun _ => by unfold um; rw [if_pos (show (unx cc n u2).2.2.1 = 0 from c15), eu], FRC_t fr0 hfr2, fun z => absurd z (Nat.succ_ne_zero 0)⟩ | exact hQ _ ⟨Y2, _, rfl, UO_nx hu2, hur2.1, hur2.2.1, FRC_t fr0 hfr2, fun z => hit2 z⟩)

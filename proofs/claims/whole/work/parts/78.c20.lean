/-! ===== a work is carried out ===== -/
def DT (d : HD) (f : Row) : Prop := ∃ D, D ≤ 500 ∧ f 44 = nI D ∧ DB D d f
theorem DT_u {d : HD} {f : Row} {k : Nat} {v : Int32} (h : DT d f) (h44 : k ≠ 44) (hv : ∀ r, r < dNr d → 16 + r = k → v = -1 ∨ v = 0) : DT d (upd f k v) := by
  obtain ⟨D, h1, h2, h3⟩ := h
  refine ⟨D, h1, by rw [pk_un (fun z => h44 z.symm)]; exact h2, fun r hr => ?_⟩
  by_cases e : 16 + r = k
  · subst e
    rw [pk_us]
    rcases hv r hr rfl with z | z
    · exact Or.inl z
    · exact Or.inr ⟨0, Nat.zero_le _, z⟩
  · rw [pk_un e]; exact h3 r hr
theorem DT_do {d : HD} {m : Nat} {wv : Nat → Nat × Nat} {f : Row} {q : Q4} (h : DT d f) (hv : HV d) (hq : okq d q) (h6 : q.1 ≠ 6) : DT d (doA d m wv f q).1 := by
  have h10 : dNr d ≤ 10 := hv.2.1
  have h8 : dNs d ≤ 8 := hv.1
  obtain ⟨k, x, y, e⟩ := q
  obtain ⟨q1, q2, q3, q4, -⟩ := hq
  dsimp only at *
  obtain rfl | rfl | rfl | rfl | rfl | rfl : k = 0 ∨ k = 1 ∨ k = 2 ∨ k = 3 ∨ k = 4 ∨ k = 5 := by omega
  · have hx := q2 (Or.inl rfl)
    show DT d (if f (16 + x) ≠ -1 ∨ f (0 + dOw d x) = 1 then (f, false) else (upd f (16 + x) 0, true)).1
    split
    · exact h
    · exact DT_u h (by omega) (fun _ _ _ => Or.inr rfl)
  · have hx := q2 (Or.inr (Or.inl rfl))
    show DT d (if f (16 + x) ≠ -1 then (upd f (16 + x) (-1), true) else (f, false)).1
    split
    · exact DT_u h (by omega) (fun _ _ _ => Or.inl rfl)
    · exact h
  · have hx := q3 (Or.inl rfl)
    show DT d (if f (0 + x) = 0 ∧ kM d f x ≠ 0 then (rLap d x f, true) else (f, false)).1
    split
    · obtain ⟨D, h1, h2, h3⟩ := h
      refine ⟨D, h1, ?_, DB_lap h3 (by omega) (by omega)⟩
      show upd (lapF d x (dNr d) f) (8 + x) (f (8 + x) + 1) 44 = nI D
      rw [pk_un (by omega)]
      unfold lapF
      rw [if_neg (by omega)]
      exact h2
    · exact h
  · have hx := q2 (Or.inr (Or.inr rfl))
    show DT d (if f (36 + y) = -1 ∧ f (26 + x) = 0 ∧ dIl d x = dPi d y ∧ nI (dPn d y) ≤ pwN d m wv f x then (rCur x y f, true) else (f, false)).1
    have hy := q4 rfl
    have h88 : dNp d ≤ 8 := hv.2.2.1
    split
    · exact DT_u (DT_u h (by omega) (fun r hr z => by omega)) (by omega) (fun r hr z => by omega)
    · exact h
  · have hx := q3 (Or.inr rfl)
    show DT d (if f (0 + x) = 1 then (f, false) else (rDie d x f, true)).1
    split
    · exact h
    · refine DT_u ?_ (by omega) (fun r hr z => by omega)
      obtain ⟨D, h1, h2, h3⟩ := h
      refine ⟨D, h1, ?_, fun r hr => ?_⟩
      · unfold dieF; rw [if_neg (by omega)]; exact h2
      · unfold dieF
        split
        · exact Or.inl rfl
        · exact h3 r hr
  · show DT d (if 500 ≤ f 44 then (f, false) else (rDay (dNr d) f, true)).1
    split
    · exact h
    · next z =>
      obtain ⟨D, h1, h2, h3⟩ := h
      have hD : D < 500 := Nat.lt_of_not_le (fun y => z (by rw [h2]; exact nI_le (a := 500) y (by omega)))
      refine ⟨D + 1, by omega, ?_, DB_day h3 h10⟩
      show upd (dayF (dNr d) f) 44 (f 44 + 1) 44 = _
      rw [pk_us, h2, nI_1]
theorem DT_gos {d : HD} {m : Nat} {wv : Nat → Nat × Nat} {l : List Q4} (hv : HV d) : ∀ (f op fr to : Nat) (A : AX), SG d l f op fr to → DT d A.1 → DT d (gos (doA d m wv) l f fr to A).1 := by
  intro f
  induction f with
  | zero => exact fun op fr to A _ h => h
  | succ f ih =>
    intro op fr to A hs h
    show DT d (if fr < to ∧ A.2.1 < 200 then (if (l.getD fr (0, 0, 0, 0)).1 = 6 then _ else _) else A).1
    by_cases q : fr < to ∧ A.2.1 < 200
    · rw [if_pos q]
      rcases hs with hs | ⟨s1, s2, s3, s4, s5⟩
      · omega
      · by_cases h6 : (l.getD fr (0, 0, 0, 0)).1 = 6
        · rw [if_pos h6]
          refine ih op _ to _ s5 ?_
          have : ∀ c (B : AX), DT d B.1 → DT d (itr (gos (doA d m wv) l f (fr + 1) (l.getD fr (0, 0, 0, 0)).2.2.2) c B).1 := by
            intro c
            induction c with
            | zero => exact fun B h => h
            | succ c lc =>
              intro B hB
              show DT d (if B.2.1 < 200 then _ else B).1
              split
              · exact lc _ (ih (op + 1) _ _ B (s4 h6).2 hB)
              · exact hB
          exact this _ _ h
        · rw [if_neg h6]
          exact ih op _ to _ s5 (DT_do h hv s3.1 h6)
    · rw [if_neg q]; exact h
def gcS (S : Sx) (A : AX) (c' : Row) : Sx := sAA (sF (sF (sF S 18 5 (nI A.2.1)) 18 6 (nI A.2.2.1)) 18 7 (nI A.2.2.2)) 16 c'
theorem gc_b (S : Sx) (A : AX) (c' : Row) (b : Nat) : sF (gcS S A c') 18 5 (nI b) = gcS S (A.1, b, A.2.2) c' := by
  have : up2 (up2 (up2 (up2 (sf S) 18 5 (nI A.2.1)) 18 6 (nI A.2.2.1)) 18 7 (nI A.2.2.2)) 18 5 (nI b) = up2 (up2 (up2 (sf S) 18 5 (nI b)) 18 6 (nI A.2.2.1)) 18 7 (nI A.2.2.2) := by
    rw [up2_c (by decide), up2_c (j := 6) (k := 5) (by decide), up2_up2]
  show (up2 (up2 (up2 (up2 (sf S) 18 5 (nI A.2.1)) 18 6 (nI A.2.2.1)) 18 7 (nI A.2.2.2)) 18 5 (nI b), sp S, _, sl S, sx S) = _
  rw [this]
  rfl
theorem gc_d (S : Sx) (A : AX) (c' : Row) (x : Nat) : sF (gcS S A c') 18 6 (nI x) = gcS S (A.1, A.2.1, x, A.2.2.2) c' := by
  have : up2 (up2 (up2 (up2 (sf S) 18 5 (nI A.2.1)) 18 6 (nI A.2.2.1)) 18 7 (nI A.2.2.2)) 18 6 (nI x) = up2 (up2 (up2 (sf S) 18 5 (nI A.2.1)) 18 6 (nI x)) 18 7 (nI A.2.2.2) := by
    rw [up2_c (by decide), up2_up2]
  show (up2 (up2 (up2 (up2 (sf S) 18 5 (nI A.2.1)) 18 6 (nI A.2.2.1)) 18 7 (nI A.2.2.2)) 18 6 (nI x), sp S, _, sl S, sx S) = _
  rw [this]
  rfl
theorem gc_r (S : Sx) (A : AX) (c' : Row) (x : Nat) : sF (gcS S A c') 18 7 (nI x) = gcS S (A.1, A.2.1, A.2.2.1, x) c' := by
  show (up2 (up2 (up2 (up2 (sf S) 18 5 (nI A.2.1)) 18 6 (nI A.2.2.1)) 18 7 (nI A.2.2.2)) 18 7 (nI x), sp S, _, sl S, sx S) = _
  rw [up2_up2]
  rfl
theorem gc_row (S T : Sx) (f f' : Row) (y : Nat × Nat × Nat) (c : Row) : w1 (gcS S (f, y) c) T = w1 (gcS S (f', y) c) T := rfl
theorem w1_F {S T : Sx} {a k : Nat} {v : Int32} : sF (w1 S T) a k v = w1 (sF S a k v) T := rfl
theorem gc_CX {S : Sx} {a b m : Nat} {d : HD} {wv : Nat → Nat × Nat} {f : Row} (hX : CX S 3 16 17 a b d m wv f) (A : AX) {c' : Row} (h : RC d c' A.1) : CX (gcS S A c') 3 16 17 a b d m wv A.1 := CX_AA (CX_F (CX_F (CX_F hX (by decide)) (by decide)) (by decide)) h
def GC (S : Sx) (d : HD) (A : AX) (X : Sx) : Prop := ∃ c' T, X = w1 (gcS S A c') T ∧ RC d c' A.1
theorem gc_AA (S : Sx) (A : AX) (c' c'' : Row) : sAA (gcS S A c') 16 c'' = gcS S A c'' := sAA_sAA _ _ _ _
def CGJ (g : Gp) (S : Sx) (D : Row → Q4 → Row × Bool) (d : HD) (l : List Q4) (f : Nat) : Prop := ∀ (op fr to : Nat) (A : AX) (X : Sx) (x2 x6 : Option Value) (sz : Nat) (Q : Po), op ≤ 6 → SG d l f op fr to → to ≤ l.length → A.2.1 ≤ 200 → DT d A.1 → GC S d A X → (∀ X', GC S d (gos D l f fr to A) X' → Q (.inl none) (hs X') sz) → J g mX4_carryOut (13 - op) [] 3 [some (.ref 18), some (.ref 3), x2, some (.int (nI to)), some (.int (nI op)), some (.int (nI fr)), x6] [] (hs X) sz 0 0 Q
theorem cg_ru {g : Gp} {S : Sx} {D : Row → Q4 → Row × Bool} {d : HD} {l : List Q4} {f : Nat} (h : CGJ g S D d l f) {op fr to : Nat} {A : AX} {X : Sx} (hop : op ≤ 6) (hs : SG d l f op fr to) (ht : to ≤ l.length) (hA : A.2.1 ≤ 200) (hD : DT d A.1) (hX : GC S d A X) : RU g mX4_carryOut (13 - op) [.ref 18, .ref 3, .int (nI fr), .int (nI to), .int (nI op)] X (GC S d (gos D l f fr to A)) := by
  refine RU_ofQ ⟨rfl, rfl⟩ (Nat.le_of_ble_eq_true rfl) (fun sz Q hQ => ?_)
  refine J_iload_n (pc := 0) dX4_carryOut_0 rfl ?_
  refine J_istore (pc := 1) dX4_carryOut_1 (by decide) rfl ?_
  exact h op fr to A X _ _ sz Q hop hs ht hA hD hX hQ
theorem mx_le {a b : Nat} (h : a ≤ b) (hb : b < 2 ^ 31) : (if nI a < nI b then nI b else nI a) = nI b := by
  by_cases q : a < b
  · exact if_pos (nI_lt q hb)
  · rw [show a = b by omega]
    exact ite_self _
theorem cg_j {g : Gp} {S : Sx} {a b m : Nat} {d : HD} {wv : Nat → Nat × Nat} {f0 : Row} (hX0 : CX S 3 16 17 a b d m wv f0) {l : List Q4} (h37 : l.length ≤ 37) (hL : ∀ i, i < l.length → SCq S i (l.getD i (0, 0, 0, 0))) (hne : ∀ i, i < l.length → (l.getD i (0, 0, 0, 0)).2.2.2 ≠ 0) : ∀ f, CGJ g S (doA d m wv) d l f := by
  intro f
  have hv := hX0.2.2.2.2.2.2.1
  induction f with
  | zero =>
    intro op fr to A X x2 x6 sz Q hop hs ht hA hD hGC hQ
    have hfr : fr = to := hs
    subst hfr
    refine J_iload (pc := 3) dX4_carryOut_3 rfl ?_
    refine J_iload_n (pc := 5) dX4_carryOut_5 rfl ?_
    refine J_icmp_ge (pc := 6) (tgt := 185) dX4_carryOut_6 (by decide) (fun c6 => ?_) (fun c6 => absurd (Int32.le_refl _) c6)
    exact J_ret (pc := 185) rfl rfl dX4_carryOut_185 (hQ X hGC)
  | succ f ih =>
    intro op fr to A X x2 x6 sz Q hop hs ht hA hD hGC hQ
    have hsf := SG_fr hs
    by_cases hlt : fr < to
    · by_cases hb : A.2.1 < 200
      · rcases hs with hs | ⟨s1, s2, s3, s4, s5⟩
        · omega
        · obtain ⟨q, hqe⟩ : ∃ q, q = l.getD fr (0, 0, 0, 0) := ⟨_, rfl⟩
          have hq := hL fr (by omega)
          have hqn := hne fr (by omega)
          have hg : gos (doA d m wv) l (f + 1) fr to A = if q.1 = 6 then gos (doA d m wv) l f q.2.2.2 to (itr (gos (doA d m wv) l f (fr + 1) q.2.2.2) q.2.1 (A.1, A.2.1 + 1, A.2.2)) else gos (doA d m wv) l f q.2.2.2 to ((doA d m wv A.1 q).1, A.2.1 + 1, (if (doA d m wv A.1 q).2 = true then (A.2.2.1 + 1, A.2.2.2) else (A.2.2.1, A.2.2.2 + 1))) := by
            rw [hqe]
            exact if_pos ⟨hlt, hb⟩
          rw [← hqe] at s1 s2 s3 s4 s5 hq hqn
          clear hqe
          have q7 : q.1 ≤ 6 := s3.1.1
          obtain ⟨c', T, rfl, hRC⟩ := hGC
          have hv9 : ∀ (B : AX) (c'' : Row) (T : Sx), sa (w1 (gcS S B c'') T) 19 fr = nI q.1 := fun B c'' T => by show (if (19 : Nat) = 16 then c'' else sa S 19) fr = _; rw [if_neg (by decide)]; exact hq.1
          have hv0 : q.1 ≠ 5 → ∀ (B : AX) (c'' : Row) (T : Sx), sa (w1 (gcS S B c'') T) 20 fr = nI q.2.1 := fun z B c'' T => by show (if (20 : Nat) = 16 then c'' else sa S 20) fr = _; rw [if_neg (by decide)]; exact (hq.2.1 z)
          have hv1 : q.1 = 3 → ∀ (B : AX) (c'' : Row) (T : Sx), sa (w1 (gcS S B c'') T) 21 fr = nI q.2.2.1 := fun z B c'' T => by show (if (21 : Nat) = 16 then c'' else sa S 21) fr = _; rw [if_neg (by decide)]; exact (hq.2.2.1 z)
          have hv2 : q.1 = 6 → ∀ (B : AX) (c'' : Row) (T : Sx), sa (w1 (gcS S B c'') T) 22 fr = nI q.2.2.2 := fun z B c'' T => by show (if (22 : Nat) = 16 then c'' else sa S 22) fr = _; rw [if_neg (by decide)]; exact (hq.2.2.2 z hqn)
          refine J_iload (pc := 3) dX4_carryOut_3 rfl ?_
          refine J_iload_n (pc := 5) dX4_carryOut_5 rfl ?_
          refine J_icmp_ge (pc := 6) (tgt := 185) dX4_carryOut_6 (by decide) (fun c6 => absurd c6 (nI_ge hlt (by omega))) (fun c6 => ?_)
          refine J_iload (pc := 9) dX4_carryOut_9 rfl ?_
          refine J_aload_n (pc := 11) dX4_carryOut_11 rfl ?_
          refine J_getr (pc := 12) dX4_carryOut_12 kc4 fl_X4_11 rfl ?_
          refine J_al (pc := 15) dX4_carryOut_15 rfl (by decide) rfl ?_
          refine J_icmp_ge (pc := 16) (tgt := 185) dX4_carryOut_16 (by decide) (fun c16 => absurd c16 (nI_ge (b := 37) (by omega) (by decide))) (fun c16 => ?_)
          refine J_aload_n (pc := 19) dX4_carryOut_19 rfl ?_
          refine J_geti (pc := 20) dX4_carryOut_20 kc4 fl_X4_28 rfl ?_
          refine J_t1 (y := nI A.2.1) rfl ?_
          refine J_sipush (pc := 23) (v := 200) dX4_carryOut_23 (by decide) ?_
          refine J_icmp_ge (pc := 26) (tgt := 185) dX4_carryOut_26 (by decide) (fun c26 => absurd c26 (nI_ge (b := 200) hb (by decide))) (fun c26 => ?_)
          refine J_aload_n (pc := 29) dX4_carryOut_29 rfl ?_
          refine J_dup (pc := 30) dX4_carryOut_30 rfl ?_
          refine J_geti (pc := 31) dX4_carryOut_31 kc4 fl_X4_28 rfl ?_
          refine J_t1 (y := nI A.2.1) rfl ?_
          refine J_iconst (pc := 34) (v := 1) dX4_carryOut_34 (by decide) ?_
          refine J_iadd (pc := 35) dX4_carryOut_35 ?_
          rw [nI_1]
          refine J_puti (pc := 36) dX4_carryOut_36 kc4 fl_X4_28 rfl ⟨rfl, rfl⟩ ?_
          rw [w1_F, gc_b]
          refine J_aload_n (pc := 39) dX4_carryOut_39 rfl ?_
          refine J_getr (pc := 40) dX4_carryOut_40 kc4 fl_X4_11 rfl ?_
          refine J_iload (pc := 43) dX4_carryOut_43 rfl ?_
          refine J_il (pc := 45) dX4_carryOut_45 rfl rfl ⟨by omega, by decide⟩ ?_
          refine J_t1 (y := nI q.1) (hv9 _ _ _) ?_
          refine J_bipush (pc := 46) (v := 6) dX4_carryOut_46 (by decide) ?_
          refine J_icmp_eq (pc := 48) (tgt := 108) dX4_carryOut_48 (by decide) (fun c48 => ?_) (fun c48 => ?_)
          · have h6 : q.1 = 6 := nI_eq_m (b := 6) (by omega) (by decide) c48
            rw [if_pos h6] at hg
            rw [hg] at hQ
            obtain ⟨ho6, s4⟩ := s4 h6
            have ha40 := s3.1.2.2.2.2 h6
            have n5 : q.1 ≠ 5 := by omega
            have post : ∀ (B : AX) (X : Sx) (x6 : Option Value), B.2.1 ≤ 200 → DT d B.1 → GC S d B X → (∀ X', GC S d (gos (doA d m wv) l f q.2.2.2 to B) X' → Q (.inl none) (hs X') sz) → J g mX4_carryOut (13 - op) [] 166 [some (.ref 18), some (.ref 3), x2, some (.int (nI to)), some (.int (nI op)), some (.int (nI fr)), x6] [] (hs X) sz 0 0 Q := by
              intro B X x6 hB hDB hGB hQ2
              obtain ⟨c2, T2, rfl, hRC2⟩ := hGB
              refine J_iload (pc := 166) dX4_carryOut_166 rfl ?_
              refine J_iconst (pc := 168) (v := 1) dX4_carryOut_168 (by decide) ?_
              refine J_iadd (pc := 169) dX4_carryOut_169 ?_
              rw [nI_1]
              refine J_aload_n (pc := 170) dX4_carryOut_170 rfl ?_
              refine J_getr (pc := 171) dX4_carryOut_171 kc4 fl_X4_21 rfl ?_
              refine J_iload (pc := 174) dX4_carryOut_174 rfl ?_
              refine J_il (pc := 176) dX4_carryOut_176 rfl rfl ⟨by omega, by decide⟩ ?_
              refine J_t1 (y := nI q.2.2.2) (hv2 h6 _ _ _) ?_
              refine J_mmax (pc := 177) dX4_carryOut_177 ml_X4_98 (Nat.le_of_ble_eq_true rfl) ?_
              refine J_t1 (y := nI q.2.2.2) (mx_le (a := fr + 1) (b := q.2.2.2) (by omega) (by omega)) ?_
              refine J_istore (pc := 180) dX4_carryOut_180 (by decide) rfl ?_
              refine J_goto (pc := 182) (tgt := 3) dX4_carryOut_182 (by decide) ?_
              exact ih op q.2.2.2 to B _ _ _ sz Q hop s5 ht hB hDB ⟨c2, T2, rfl, hRC2⟩ hQ2
            have lc : ∀ (c j : Nat) (B : AX) (X : Sx), j + c = q.2.1 → B.2.1 ≤ 200 → DT d B.1 → GC S d B X → (∀ X' (x6 : Option Value), GC S d (itr (gos (doA d m wv) l f (fr + 1) q.2.2.2) c B) X' → DT d (itr (gos (doA d m wv) l f (fr + 1) q.2.2.2) c B).1 → J g mX4_carryOut (13 - op) [] 166 [some (.ref 18), some (.ref 3), x2, some (.int (nI to)), some (.int (nI op)), some (.int (nI fr)), x6] [] (hs X') sz 0 0 Q) → J g mX4_carryOut (13 - op) [] 111 [some (.ref 18), some (.ref 3), x2, some (.int (nI to)), some (.int (nI op)), some (.int (nI fr)), some (.int (nI j))] [] (hs X) sz 0 0 Q := by
              intro c
              induction c with
              | zero =>
                intro j B X hj hB hDB hGB hx
                obtain ⟨c2, T2, rfl, hRC2⟩ := hGB
                refine J_iload (pc := 111) dX4_carryOut_111 rfl ?_
                refine J_aload_n (pc := 113) dX4_carryOut_113 rfl ?_
                refine J_getr (pc := 114) dX4_carryOut_114 kc4 fl_X4_15 rfl ?_
                refine J_iload (pc := 117) dX4_carryOut_117 rfl ?_
                refine J_il (pc := 119) dX4_carryOut_119 rfl rfl ⟨by omega, by decide⟩ ?_
                refine J_t1 (y := nI q.2.1) (hv0 n5 _ _ _) ?_
                refine J_icmp_ge (pc := 120) (tgt := 166) dX4_carryOut_120 (by decide) (fun c120 => ?_) (fun c120 => absurd (nI_le (by omega) (by omega)) c120)
                exact hx _ _ ⟨c2, T2, rfl, hRC2⟩ hDB
              | succ c lc =>
                intro j B X hj hB hDB hGB hx
                obtain ⟨c2, T2, rfl, hRC2⟩ := hGB
                by_cases qb : B.2.1 < 200
                · have hi : itr (gos (doA d m wv) l f (fr + 1) q.2.2.2) (c + 1) B = itr (gos (doA d m wv) l f (fr + 1) q.2.2.2) c (gos (doA d m wv) l f (fr + 1) q.2.2.2 B) := if_pos qb
                  rw [hi] at hx
                  refine J_iload (pc := 111) dX4_carryOut_111 rfl ?_
                  refine J_aload_n (pc := 113) dX4_carryOut_113 rfl ?_
                  refine J_getr (pc := 114) dX4_carryOut_114 kc4 fl_X4_15 rfl ?_
                  refine J_iload (pc := 117) dX4_carryOut_117 rfl ?_
                  refine J_il (pc := 119) dX4_carryOut_119 rfl rfl ⟨by omega, by decide⟩ ?_
                  refine J_t1 (y := nI q.2.1) (hv0 n5 _ _ _) ?_
                  refine J_icmp_ge (pc := 120) (tgt := 166) dX4_carryOut_120 (by decide) (fun c120 => absurd c120 (nI_ge (by omega) (by omega))) (fun c120 => ?_)
                  refine J_iload (pc := 123) dX4_carryOut_123 rfl ?_
                  refine J_bipush (pc := 125) (v := 6) dX4_carryOut_125 (by decide) ?_
                  refine J_icmp_ge (pc := 127) (tgt := 166) dX4_carryOut_127 (by decide) (fun c127 => absurd c127 (nI_ge (b := 6) ho6 (by decide))) (fun c127 => ?_)
                  refine J_aload_n (pc := 130) dX4_carryOut_130 rfl ?_
                  refine J_geti (pc := 131) dX4_carryOut_131 kc4 fl_X4_28 rfl ?_
                  refine J_t1 (y := nI B.2.1) rfl ?_
                  refine J_sipush (pc := 134) (v := 200) dX4_carryOut_134 (by decide) ?_
                  refine J_icmp_ge (pc := 137) (tgt := 166) dX4_carryOut_137 (by decide) (fun c137 => absurd c137 (nI_ge (b := 200) qb (by decide))) (fun c137 => ?_)
                  refine J_aload_n (pc := 140) dX4_carryOut_140 rfl ?_
                  refine J_aload_n (pc := 141) dX4_carryOut_141 rfl ?_
                  refine J_iload (pc := 142) dX4_carryOut_142 rfl ?_
                  refine J_iconst (pc := 144) (v := 1) dX4_carryOut_144 (by decide) ?_
                  refine J_iadd (pc := 145) dX4_carryOut_145 ?_
                  rw [nI_1]
                  refine J_aload_n (pc := 146) dX4_carryOut_146 rfl ?_
                  refine J_getr (pc := 147) dX4_carryOut_147 kc4 fl_X4_21 rfl ?_
                  refine J_iload (pc := 150) dX4_carryOut_150 rfl ?_
                  refine J_il (pc := 152) dX4_carryOut_152 rfl rfl ⟨by omega, by decide⟩ ?_
                  refine J_t1 (y := nI q.2.2.2) (hv2 h6 _ _ _) ?_
                  refine J_iload (pc := 153) dX4_carryOut_153 rfl ?_
                  refine J_iconst (pc := 155) (v := 1) dX4_carryOut_155 (by decide) ?_
                  refine J_iadd (pc := 156) dX4_carryOut_156 ?_
                  rw [nI_1]
                  refine J_cvU (pc := 157) (N := mX4_carryOut) dX4_carryOut_157 ml_X4_94 cf_X4_carryOut cv_X4_carryOut (cg_ru ih (show op + 1 ≤ 6 by omega) s4 (show q.2.2.2 ≤ l.length by omega) hB hDB ⟨c2, T2, rfl, hRC2⟩) rfl rfl (Nat.le_of_ble_eq_true rfl) (by omega) (rv_of (ci := 4) rfl rfl rfl) ?_
                  intro X157 hX157
                  refine J_iinc (pc := 160) (v := 1) dX4_carryOut_160 rfl (by decide) rfl ?_
                  rw [nI_1]
                  refine J_goto (pc := 163) (tgt := 111) dX4_carryOut_163 (by decide) ?_
                  exact lc (j + 1) _ X157 (by omega) (gos_b _ _ _ _ _ _ hB) (DT_gos hv f (op + 1) _ _ _ s4 hDB) hX157 hx
                · have hi : itr (gos (doA d m wv) l f (fr + 1) q.2.2.2) (c + 1) B = B := if_neg qb
                  rw [hi] at hx
                  refine J_iload (pc := 111) dX4_carryOut_111 rfl ?_
                  refine J_aload_n (pc := 113) dX4_carryOut_113 rfl ?_
                  refine J_getr (pc := 114) dX4_carryOut_114 kc4 fl_X4_15 rfl ?_
                  refine J_iload (pc := 117) dX4_carryOut_117 rfl ?_
                  refine J_il (pc := 119) dX4_carryOut_119 rfl rfl ⟨by omega, by decide⟩ ?_
                  refine J_t1 (y := nI q.2.1) (hv0 n5 _ _ _) ?_
                  refine J_icmp_ge (pc := 120) (tgt := 166) dX4_carryOut_120 (by decide) (fun c120 => absurd c120 (nI_ge (by omega) (by omega))) (fun c120 => ?_)
                  refine J_iload (pc := 123) dX4_carryOut_123 rfl ?_
                  refine J_bipush (pc := 125) (v := 6) dX4_carryOut_125 (by decide) ?_
                  refine J_icmp_ge (pc := 127) (tgt := 166) dX4_carryOut_127 (by decide) (fun c127 => absurd c127 (nI_ge (b := 6) ho6 (by decide))) (fun c127 => ?_)
                  refine J_aload_n (pc := 130) dX4_carryOut_130 rfl ?_
                  refine J_geti (pc := 131) dX4_carryOut_131 kc4 fl_X4_28 rfl ?_
                  refine J_t1 (y := nI B.2.1) rfl ?_
                  refine J_sipush (pc := 134) (v := 200) dX4_carryOut_134 (by decide) ?_
                  refine J_icmp_ge (pc := 137) (tgt := 166) dX4_carryOut_137 (by decide) (fun c137 => ?_) (fun c137 => absurd (nI_le (a := 200) (by omega) (by omega)) c137)
                  exact hx _ _ ⟨c2, T2, rfl, hRC2⟩ hDB
            refine J_iconst (pc := 108) (v := 0) dX4_carryOut_108 (by decide) ?_
            refine J_istore (pc := 109) dX4_carryOut_109 (by decide) rfl ?_
            refine lc q.2.1 0 (A.1, A.2.1 + 1, A.2.2) _ (Nat.zero_add _) (by show A.2.1 + 1 ≤ 200; omega) hD ⟨c', T, rfl, hRC⟩ (fun X' x6 hG2 hD2 => ?_)
            exact post _ X' x6 (itr_b (fun B hB => gos_b _ _ _ _ _ _ hB) _ _ (by show A.2.1 + 1 ≤ 200; omega)) hD2 hG2 hQ
          · have h6 : ¬ q.1 = 6 := fun z => c48 (by rw [z]; rfl)
            rw [if_neg h6] at hg
            rw [hg] at hQ
            have he : q.2.2.2 = fr + 1 := s3.2 h6
            rw [he] at hQ s5
            have hCX := gc_CX hX0 (A.1, A.2.1 + 1, A.2.2) hRC
            obtain ⟨D, hD1, hD2, hD3⟩ := id hD
            have hdo := DT_do (m := m) (wv := wv) hD hv s3.1 h6
            refine J_aload_n (pc := 51) dX4_carryOut_51 rfl ?_
            refine J_aload_n (pc := 52) dX4_carryOut_52 rfl ?_
            refine J_getr (pc := 53) dX4_carryOut_53 kc4 fl_X4_11 rfl ?_
            refine J_iload (pc := 56) dX4_carryOut_56 rfl ?_
            refine J_il (pc := 58) dX4_carryOut_58 rfl rfl ⟨by omega, by decide⟩ ?_
            refine J_t1 (y := nI q.1) (hv9 _ _ _) ?_
            refine J_aload_n (pc := 59) dX4_carryOut_59 rfl ?_
            refine J_getr (pc := 60) dX4_carryOut_60 kc4 fl_X4_15 rfl ?_
            refine J_iload (pc := 63) dX4_carryOut_63 rfl ?_
            refine J_il (pc := 65) dX4_carryOut_65 rfl rfl ⟨by omega, by decide⟩ ?_
            refine J_aload_n (pc := 66) dX4_carryOut_66 rfl ?_
            refine J_getr (pc := 67) dX4_carryOut_67 kc4 fl_X4_18 rfl ?_
            refine J_iload (pc := 70) dX4_carryOut_70 rfl ?_
            refine J_il (pc := 72) dX4_carryOut_72 rfl rfl ⟨by omega, by decide⟩ ?_
            refine J_csI (pc := 73) (N := mX4_isDone) dX4_carryOut_73 ml_X4_90 cf_X4_isDone cs_X4_isDone (r_X4_isDone hCX hD3 (by omega) s3.1 h6 (fun z => hv0 z _ _ _) (fun z => hv1 z _ _ _) (by rw [hD2]; exact nI_pos' (by omega)) T) rfl rfl (Nat.le_of_ble_eq_true rfl) (by omega) ?_
            intro x73 X73 hX73
            obtain ⟨hx73, c2, T2, rfl, hRC2⟩ := hX73
            subst hx73
            rw [gc_AA]
            obtain ⟨f1, hf1⟩ : ∃ f1, f1 = (doA d m wv A.1 q).1 := ⟨_, rfl⟩
            rw [← hf1] at hRC2 hdo hQ
            refine J_if_eq (pc := 76) (tgt := 92) dX4_carryOut_76 (by decide) (fun c76 => ?_) (fun c76 => ?_)
            · have hf : (doA d m wv A.1 q).2 = false := by cases e : (doA d m wv A.1 q).2 with | false => rfl | true => exact absurd (show bI (doA d m wv A.1 q).2 = 0 from c76) (by rw [e]; decide)
              rw [hf, if_neg Bool.false_ne_true] at hQ
              obtain ⟨B, hBe⟩ : ∃ B : AX, B = (f1, A.2.1 + 1, A.2.2.1, A.2.2.2 + 1) := ⟨_, rfl⟩
              rw [← hBe] at hQ
              have hB2 : B.2.1 ≤ 200 := by rw [hBe]; show A.2.1 + 1 ≤ 200; omega
              have hBD : DT d B.1 := by rw [hBe]; exact hdo
              have hBR : RC d c2 B.1 := by rw [hBe]; exact hRC2
              refine J_aload_n (pc := 92) dX4_carryOut_92 rfl ?_
              refine J_dup (pc := 93) dX4_carryOut_93 rfl ?_
              refine J_geti (pc := 94) dX4_carryOut_94 kc4 fl_X4_34 rfl ?_
              refine J_t1 (y := nI A.2.2.2) rfl ?_
              refine J_iconst (pc := 97) (v := 1) dX4_carryOut_97 (by decide) ?_
              refine J_iadd (pc := 98) dX4_carryOut_98 ?_
              rw [nI_1]
              refine J_puti (pc := 99) dX4_carryOut_99 kc4 fl_X4_34 rfl ⟨rfl, rfl⟩ ?_
              rw [w1_F, gc_r]
              refine J_cg2 (S' := w1 (gcS S B c2) T2) (by rw [hBe]; exact gc_row _ _ _ _ _ _) ?_
              refine J_iinc (pc := 102) (v := 1) dX4_carryOut_102 rfl (by decide) rfl ?_
              rw [nI_1]
              refine J_goto (pc := 105) (tgt := 3) dX4_carryOut_105 (by decide) ?_
              exact ih op (fr + 1) to B _ _ _ sz Q hop s5 ht hB2 hBD ⟨c2, T2, rfl, hBR⟩ hQ
            · have hf : (doA d m wv A.1 q).2 = true := by cases e : (doA d m wv A.1 q).2 with | true => rfl | false => exact absurd (show bI (doA d m wv A.1 q).2 = 0 by rw [e]; rfl) c76
              rw [hf, if_pos rfl] at hQ
              obtain ⟨B, hBe⟩ : ∃ B : AX, B = (f1, A.2.1 + 1, A.2.2.1 + 1, A.2.2.2) := ⟨_, rfl⟩
              rw [← hBe] at hQ
              have hB2 : B.2.1 ≤ 200 := by rw [hBe]; show A.2.1 + 1 ≤ 200; omega
              have hBD : DT d B.1 := by rw [hBe]; exact hdo
              have hBR : RC d c2 B.1 := by rw [hBe]; exact hRC2
              refine J_aload_n (pc := 79) dX4_carryOut_79 rfl ?_
              refine J_dup (pc := 80) dX4_carryOut_80 rfl ?_
              refine J_geti (pc := 81) dX4_carryOut_81 kc4 fl_X4_31 rfl ?_
              refine J_t1 (y := nI A.2.2.1) rfl ?_
              refine J_iconst (pc := 84) (v := 1) dX4_carryOut_84 (by decide) ?_
              refine J_iadd (pc := 85) dX4_carryOut_85 ?_
              rw [nI_1]
              refine J_puti (pc := 86) dX4_carryOut_86 kc4 fl_X4_31 rfl ⟨rfl, rfl⟩ ?_
              rw [w1_F, gc_d]
              refine J_cg2 (S' := w1 (gcS S B c2) T2) (by rw [hBe]; exact gc_row _ _ _ _ _ _) ?_
              refine J_goto (pc := 89) (tgt := 102) dX4_carryOut_89 (by decide) ?_
              refine J_iinc (pc := 102) (v := 1) dX4_carryOut_102 rfl (by decide) rfl ?_
              rw [nI_1]
              refine J_goto (pc := 105) (tgt := 3) dX4_carryOut_105 (by decide) ?_
              exact ih op (fr + 1) to B _ _ _ sz Q hop s5 ht hB2 hBD ⟨c2, T2, rfl, hBR⟩ hQ
      · have hg : gos (doA d m wv) l (f + 1) fr to A = A := if_neg (fun z => hb z.2)
        rw [hg] at hQ
        obtain ⟨c', T, rfl, hRC⟩ := hGC
        refine J_iload (pc := 3) dX4_carryOut_3 rfl ?_
        refine J_iload_n (pc := 5) dX4_carryOut_5 rfl ?_
        refine J_icmp_ge (pc := 6) (tgt := 185) dX4_carryOut_6 (by decide) (fun c6 => absurd c6 (nI_ge hlt (by omega))) (fun c6 => ?_)
        refine J_iload (pc := 9) dX4_carryOut_9 rfl ?_
        refine J_aload_n (pc := 11) dX4_carryOut_11 rfl ?_
        refine J_getr (pc := 12) dX4_carryOut_12 kc4 fl_X4_11 rfl ?_
        refine J_al (pc := 15) dX4_carryOut_15 rfl (by decide) rfl ?_
        refine J_icmp_ge (pc := 16) (tgt := 185) dX4_carryOut_16 (by decide) (fun c16 => absurd c16 (nI_ge (b := 37) (by omega) (by decide))) (fun c16 => ?_)
        refine J_aload_n (pc := 19) dX4_carryOut_19 rfl ?_
        refine J_geti (pc := 20) dX4_carryOut_20 kc4 fl_X4_28 rfl ?_
        refine J_t1 (y := nI A.2.1) rfl ?_
        refine J_sipush (pc := 23) (v := 200) dX4_carryOut_23 (by decide) ?_
        refine J_icmp_ge (pc := 26) (tgt := 185) dX4_carryOut_26 (by decide) (fun c26 => ?_) (fun c26 => absurd (nI_le (a := 200) (by omega) (by omega)) c26)
        exact J_ret (pc := 185) rfl rfl dX4_carryOut_185 (hQ _ ⟨c', T, rfl, hRC⟩)
    · have hg : gos (doA d m wv) l (f + 1) fr to A = A := if_neg (fun z => hlt z.1)
      rw [hg] at hQ
      refine J_iload (pc := 3) dX4_carryOut_3 rfl ?_
      refine J_iload_n (pc := 5) dX4_carryOut_5 rfl ?_
      refine J_icmp_ge (pc := 6) (tgt := 185) dX4_carryOut_6 (by decide) (fun c6 => ?_) (fun c6 => absurd (nI_le (by omega) (by omega)) c6)
      exact J_ret (pc := 185) rfl rfl dX4_carryOut_185 (hQ X hGC)

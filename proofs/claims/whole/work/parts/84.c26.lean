/-! ===== the class looks for pairs ===== -/
def PGv (S : Sx) (t : Nat → Option Nat) (v : Int32) : Sx := (up2 (sf S) 24 3 v, sp S, fun a => if a = 27 then (fun k => if k < 10 then ov (t k) else sa S 27 k) else sa S a, sl S, sx S)
abbrev PG (S : Sx) (s : PSt) : Sx := PGv S s.1 (msk s.2 10)
theorem PG_f (S : Sx) (t : Nat → Option Nat) (v w : Int32) : sF (PGv S t v) 24 3 w = PGv S t w := by
  show (up2 (up2 (sf S) 24 3 v) 24 3 w, _, _, _, _) = _
  rw [up2_up2]
  rfl
theorem PG_a (S : Sx) (t : Nat → Option Nat) (v : Int32) {r p : Nat} (hr : r < 10) : sA (PGv S t v) 27 r (nI p) = PGv S (updO t r (some p)) v := by
  have : up2 (fun a => if a = 27 then (fun k => if k < 10 then ov (t k) else sa S 27 k) else sa S a) 27 r (nI p) = fun a => if a = 27 then (fun k => if k < 10 then ov (updO t r (some p) k) else sa S 27 k) else sa S a := by
    funext a k
    show (if a = 27 then (if k = r then nI p else (if a = 27 then (fun k => if k < 10 then ov (t k) else sa S 27 k) else sa S a) k) else (if a = 27 then (fun k => if k < 10 then ov (t k) else sa S 27 k) else sa S a) k) = (if a = 27 then (fun k => if k < 10 then ov (updO t r (some p) k) else sa S 27 k) else sa S a) k
    by_cases e : a = 27
    · rw [if_pos e, if_pos e, if_pos e]
      by_cases e2 : k = r
      · subst e2
        rw [if_pos rfl, if_pos hr, updO_s]
        rfl
      · rw [if_neg e2]
        show (if k < 10 then ov (t k) else _) = (if k < 10 then ov (updO t r (some p) k) else _)
        rw [updO_n e2]
    · rw [if_neg e, if_neg e, if_neg e]
  show (_, _, up2 (fun a => if a = 27 then (fun k => if k < 10 then ov (t k) else sa S 27 k) else sa S a) 27 r (nI p), _, _) = _
  rw [this]
  rfl
theorem PG_r {S : Sx} {t : Nat → Option Nat} {v : Int32} {r : Nat} (hr : r < 10) : sa (PGv S t v) 27 r = ov (t r) := by
  show (if (27 : Nat) = 27 then (fun k => if k < 10 then ov (t k) else sa S 27 k) else sa S 27) r = _
  rw [if_pos rfl]
  exact if_pos hr
theorem PG_25 {S : Sx} {t : Nat → Option Nat} {v : Int32} {p : Nat} : sa (PGv S t v) 25 p = sa S 25 p := by
  show (if (25 : Nat) = 27 then (fun k => if k < 10 then ov (t k) else sa S 27 k) else sa S 25) p = _
  rw [if_neg (by decide)]
theorem bt_z (k : Nat) : bt 0 k = false := by unfold bt; simp
theorem an_0 {x : Int32} {r : Nat} (hr : r < 32) : x &&& (1 : Int32) <<< (nI r &&& 31) = 0 ↔ ¬ bt x r = true := by
  constructor
  · intro h z
    have := congrArg (fun y => bt y r) h
    simp only [bt_and, bt_1 hr, bt_z] at this
    rw [z] at this
    simp at this
  · intro h
    apply bt_ext
    intro k _
    rw [bt_and, bt_1 hr, bt_z]
    by_cases e : r = k
    · subst e
      cases q : bt x r with
      | true => exact absurd q h
      | false => rfl
    · rw [decide_eq_false e, Bool.and_false]
def TKt (t : Nat → Option Nat) : Prop := ∀ r q, t r = some q → q < 8
theorem TK_u {t : Nat → Option Nat} (h : TKt t) {r p : Nat} (hp : p < 8) : TKt (updO t r (some p)) := fun i q hq => by
  by_cases e : i = r
  · subst e; rw [updO_s] at hq; cases hq; exact hp
  · rw [updO_n e] at hq; exact h i q hq
theorem TK_fnd {E : Nat → Nat → Bool} : ∀ (k p : Nat) (s : PSt), p < 8 → TKt s.1 → TKt (fnd8 E k p s).2.1
  | 0, _, _, _, h => h
  | k + 1, p, s, hp, h => by
    have : ∀ (m r : Nat) (s : PSt), TKt s.1 → TKt (flp (fnd8 E k) (E p) p m r s).2.1 := by
      intro m
      induction m with
      | zero => exact fun _ _ h => h
      | succ m ih =>
        intro r s h
        by_cases c : E p r = true ∧ ¬ s.2 r = true
        · cases ht : s.1 r with
          | none =>
            have hf : flp (fnd8 E k) (E p) p (m + 1) r s = (true, (updO s.1 r (some p), fun i => s.2 i || decide (i = r))) := by
              show (if E p r = true ∧ ¬ s.2 r = true then _ else _) = _
              rw [if_pos c, ht]
            rw [hf]
            exact TK_u h hp
          | some q =>
            have hy := TK_fnd (E := E) k q (s.1, fun i => s.2 i || decide (i = r)) (h r q ht) h
            have hf : flp (fnd8 E k) (E p) p (m + 1) r s = if (fnd8 E k q (s.1, fun i => s.2 i || decide (i = r))).1 = true then (true, (updO (fnd8 E k q (s.1, fun i => s.2 i || decide (i = r))).2.1 r (some p), (fnd8 E k q (s.1, fun i => s.2 i || decide (i = r))).2.2)) else flp (fnd8 E k) (E p) p m (r + 1) (fnd8 E k q (s.1, fun i => s.2 i || decide (i = r))).2 := by
              show (if E p r = true ∧ ¬ s.2 r = true then _ else _) = _
              rw [if_pos c, ht]
            rw [hf]
            split
            · exact TK_u hy hp
            · exact ih _ _ hy
        · have hf : flp (fnd8 E k) (E p) p (m + 1) r s = flp (fnd8 E k) (E p) p m (r + 1) s := if_neg c
          rw [hf]
          exact ih _ _ h
    exact this 10 0 s h
theorem sF_s2 {S : Sx} {t : Nat → Option Nat} {v : Int32} : sf (PGv S t v) 24 3 = v := by show up2 (sf S) 24 3 v 24 3 = v; simp [up2]
theorem r_X3_findsRelic {g : Gp} {S : Sx} {fr : Int32} {E : Nat → Nat → Bool} (hE : ∀ p r, p < 8 → r < 10 → E p r = bt (sa S 25 p &&& fr) r) : ∀ (k p dep : Nat) (s : PSt), dep + k = 9 → p < 8 → TKt s.1 → RT g mX3_findsRelic k [.ref 24, .int (nI p), .int fr, .int (nI dep)] (PG S s) (some (.int (bI (fnd8 E k p s).1))) (PG S (fnd8 E k p s).2) := by
  intro k
  induction k with
  | zero =>
    intro p dep s hd hp hT
    refine RT_ofQ ⟨rfl, rfl⟩ (Nat.le_of_ble_eq_true rfl) (fun sz Q hQ => ?_)
    have hd9 : dep = 9 := by omega
    subst hd9
    refine J_iload_n (pc := 0) dX3_findsRelic_0 rfl ?_
    refine J_if_lt (pc := 1) (tgt := 19) dX3_findsRelic_1 (by decide) (fun c1 => absurd c1 (Int32.not_lt.mpr (nI_pos' (by omega)))) (fun c1 => ?_)
    refine J_iload_n (pc := 4) dX3_findsRelic_4 rfl ?_
    refine J_aload_n (pc := 5) dX3_findsRelic_5 rfl ?_
    refine J_getr (pc := 6) dX3_findsRelic_6 kc3 fl_X3_9 rfl ?_
    refine J_al (pc := 9) dX3_findsRelic_9 rfl (by decide) rfl ?_
    refine J_icmp_ge (pc := 10) (tgt := 19) dX3_findsRelic_10 (by decide) (fun c10 => absurd c10 (nI_ge (b := 8) hp (by decide))) (fun c10 => ?_)
    refine J_iload_n (pc := 13) dX3_findsRelic_13 rfl ?_
    refine J_bipush (pc := 14) (v := 8) dX3_findsRelic_14 (by decide) ?_
    refine J_icmp_le (pc := 16) (tgt := 21) dX3_findsRelic_16 (by decide) (fun c16 => absurd c16 (by decide)) (fun c16 => ?_)
    refine J_iconst (pc := 19) (v := 0) dX3_findsRelic_19 (by decide) ?_
    exact J_iret (pc := 20) rfl rfl rfl dX3_findsRelic_20 (rq hQ rfl rfl)
  | succ k ih =>
    intro p dep s hd hp hT
    refine RT_ofQ ⟨rfl, rfl⟩ (Nat.le_of_ble_eq_true rfl) (fun sz Q hQ => ?_)
    refine J_iload_n (pc := 0) dX3_findsRelic_0 rfl ?_
    refine J_if_lt (pc := 1) (tgt := 19) dX3_findsRelic_1 (by decide) (fun c1 => absurd c1 (Int32.not_lt.mpr (nI_pos' (by omega)))) (fun c1 => ?_)
    refine J_iload_n (pc := 4) dX3_findsRelic_4 rfl ?_
    refine J_aload_n (pc := 5) dX3_findsRelic_5 rfl ?_
    refine J_getr (pc := 6) dX3_findsRelic_6 kc3 fl_X3_9 rfl ?_
    refine J_al (pc := 9) dX3_findsRelic_9 rfl (by decide) rfl ?_
    refine J_icmp_ge (pc := 10) (tgt := 19) dX3_findsRelic_10 (by decide) (fun c10 => absurd c10 (nI_ge (b := 8) hp (by decide))) (fun c10 => ?_)
    refine J_iload_n (pc := 13) dX3_findsRelic_13 rfl ?_
    refine J_bipush (pc := 14) (v := 8) dX3_findsRelic_14 (by decide) ?_
    refine J_icmp_le (pc := 16) (tgt := 21) dX3_findsRelic_16 (by decide) (fun c16 => ?_) (fun c16 => absurd (nI_le (b := 8) (by omega) (by decide)) c16)
    refine J_iconst (pc := 21) (v := 0) dX3_findsRelic_21 (by decide) ?_
    refine J_istore (pc := 22) dX3_findsRelic_22 (by decide) rfl ?_
    have key : ∀ m r (s1 : PSt), r + m = 10 → TKt s1.1 → flp (fnd8 E k) (E p) p m r s1 = fnd8 E (k + 1) p s → J g mX3_findsRelic (k + 1) [] 24 [some (.ref 24), some (.int (nI p)), some (.int fr), some (.int (nI dep)), some (.int (nI r))] [] (hs (PG S s1)) sz 0 0 Q := by
      intro m
      induction m with
      | zero =>
        intro r s1 hm hT1 he
        have hr : r = 10 := by omega
        subst hr
        rw [← he] at hQ
        refine J_iload (pc := 24) dX3_findsRelic_24 rfl ?_
        refine J_aload_n (pc := 26) dX3_findsRelic_26 rfl ?_
        refine J_getr (pc := 27) dX3_findsRelic_27 kc3 fl_X3_18 rfl ?_
        refine J_al (pc := 30) dX3_findsRelic_30 rfl (by decide) rfl ?_
        refine J_icmp_ge (pc := 31) (tgt := 115) dX3_findsRelic_31 (by decide) (fun c31 => ?_) (fun c31 => absurd (Int32.le_refl _) c31)
        refine J_iconst (pc := 115) (v := 0) dX3_findsRelic_115 (by decide) ?_
        exact J_iret (pc := 116) rfl rfl rfl dX3_findsRelic_116 (rq hQ rfl rfl)
      | succ m lh =>
        intro r s1 hm hT1 he
        have hr10 : r < 10 := by omega
        have hmask : msk s1.2 10 ||| (1 : Int32) <<< (nI r &&& 31) = msk (fun i => s1.2 i || decide (i = r)) 10 := msk_set (by decide) hr10 (fun k _ => rfl)
        have hcond : ((sa S 25 p &&& fr) &&& (msk s1.2 10 ^^^ -1)) &&& (1 : Int32) <<< (nI r &&& 31) = 0 ↔ ¬ (E p r = true ∧ ¬ s1.2 r = true) := by
          rw [an_0 (show r < 32 by omega), bt_and, bt_xm _ (show r < 32 by omega), bt_msk _ 10 (by decide), ← hE p r hp hr10, decide_eq_true hr10]
          simp
        by_cases c : E p r = true ∧ ¬ s1.2 r = true
        · cases ht : s1.1 r with
          | none =>
            have hf : flp (fnd8 E k) (E p) p (m + 1) r s1 = (true, (updO s1.1 r (some p), fun i => s1.2 i || decide (i = r))) := by
              show (if E p r = true ∧ ¬ s1.2 r = true then _ else _) = _
              rw [if_pos c, ht]
            rw [← he, hf] at hQ
            refine J_iload (pc := 24) dX3_findsRelic_24 rfl ?_
            refine J_aload_n (pc := 26) dX3_findsRelic_26 rfl ?_
            refine J_getr (pc := 27) dX3_findsRelic_27 kc3 fl_X3_18 rfl ?_
            refine J_al (pc := 30) dX3_findsRelic_30 rfl (by decide) rfl ?_
            refine J_icmp_ge (pc := 31) (tgt := 115) dX3_findsRelic_31 (by decide) (fun c31 => absurd c31 (nI_ge (b := 10) hr10 (by decide))) (fun c31 => ?_)
            refine J_aload_n (pc := 34) dX3_findsRelic_34 rfl ?_
            refine J_getr (pc := 35) dX3_findsRelic_35 kc3 fl_X3_9 rfl ?_
            refine J_iload_n (pc := 38) dX3_findsRelic_38 rfl ?_
            refine J_il (pc := 39) dX3_findsRelic_39 rfl rfl ⟨hp, by decide⟩ ?_
            refine J_t1 PG_25 ?_
            refine J_iload_n (pc := 40) dX3_findsRelic_40 rfl ?_
            refine J_iand (pc := 41) dX3_findsRelic_41 ?_
            refine J_aload_n (pc := 42) dX3_findsRelic_42 rfl ?_
            refine J_geti (pc := 43) dX3_findsRelic_43 kc3 fl_X3_51 rfl ?_
            refine J_t1 (y := msk s1.2 10) sF_s2 ?_
            refine J_iconst (pc := 46) (v := -1) dX3_findsRelic_46 (by decide) ?_
            refine J_ixor (pc := 47) dX3_findsRelic_47 ?_
            refine J_iand (pc := 48) dX3_findsRelic_48 ?_
            refine J_iconst (pc := 49) (v := 1) dX3_findsRelic_49 (by decide) ?_
            refine J_iload (pc := 50) dX3_findsRelic_50 rfl ?_
            refine J_ishl (pc := 52) dX3_findsRelic_52 ?_
            refine J_iand (pc := 53) dX3_findsRelic_53 ?_
            refine J_if_eq (pc := 54) (tgt := 109) dX3_findsRelic_54 (by decide) (fun c54 => absurd c54 (fun z => hcond.mp z c)) (fun c54 => ?_)
            refine J_aload_n (pc := 57) dX3_findsRelic_57 rfl ?_
            refine J_dup (pc := 58) dX3_findsRelic_58 rfl ?_
            refine J_geti (pc := 59) dX3_findsRelic_59 kc3 fl_X3_51 rfl ?_
            refine J_t1 (y := msk s1.2 10) sF_s2 ?_
            refine J_iconst (pc := 62) (v := 1) dX3_findsRelic_62 (by decide) ?_
            refine J_iload (pc := 63) dX3_findsRelic_63 rfl ?_
            refine J_ishl (pc := 65) dX3_findsRelic_65 ?_
            refine J_ior (pc := 66) dX3_findsRelic_66 ?_
            refine J_t1 hmask ?_
            refine J_puti (pc := 67) dX3_findsRelic_67 kc3 fl_X3_51 rfl ⟨rfl, rfl⟩ ?_
            rw [PG_f]
            refine J_aload_n (pc := 70) dX3_findsRelic_70 rfl ?_
            refine J_getr (pc := 71) dX3_findsRelic_71 kc3 fl_X3_18 rfl ?_
            refine J_iload (pc := 74) dX3_findsRelic_74 rfl ?_
            refine J_il (pc := 76) dX3_findsRelic_76 rfl rfl ⟨hr10, by decide⟩ ?_
            refine J_t1 (PG_r hr10) ?_
            rw [ht]
            refine J_iconst (pc := 77) (v := -1) dX3_findsRelic_77 (by decide) ?_
            refine J_icmp_eq (pc := 78) (tgt := 99) dX3_findsRelic_78 (by decide) (fun c78 => ?_) (fun c78 => absurd rfl c78)
            refine J_aload_n (pc := 99) dX3_findsRelic_99 rfl ?_
            refine J_getr (pc := 100) dX3_findsRelic_100 kc3 fl_X3_18 rfl ?_
            refine J_iload (pc := 103) dX3_findsRelic_103 rfl ?_
            refine J_iload_n (pc := 105) dX3_findsRelic_105 rfl ?_
            refine J_is (pc := 106) dX3_findsRelic_106 rfl rfl ⟨hr10, by decide⟩ ?_
            rw [PG_a S _ _ hr10]
            refine J_iconst (pc := 107) (v := 1) dX3_findsRelic_107 (by decide) ?_
            exact J_iret (pc := 108) rfl rfl rfl dX3_findsRelic_108 (rq hQ rfl rfl)
          | some q =>
            obtain ⟨y, hy⟩ : ∃ y, y = fnd8 E k q (s1.1, fun i => s1.2 i || decide (i = r)) := ⟨_, rfl⟩
            have hf : flp (fnd8 E k) (E p) p (m + 1) r s1 = if y.1 = true then (true, (updO y.2.1 r (some p), y.2.2)) else flp (fnd8 E k) (E p) p m (r + 1) y.2 := by
              show (if E p r = true ∧ ¬ s1.2 r = true then _ else _) = _
              rw [if_pos c, ht, hy]
            rw [hf] at he
            have hq8 := hT1 r q ht
            have hTy : TKt y.2.1 := by rw [hy]; exact TK_fnd k q _ hq8 hT1
            have hcall := ih q (dep + 1) (s1.1, fun i => s1.2 i || decide (i = r)) (by omega) hq8 hT1
            rw [← hy] at hcall
            refine J_iload (pc := 24) dX3_findsRelic_24 rfl ?_
            refine J_aload_n (pc := 26) dX3_findsRelic_26 rfl ?_
            refine J_getr (pc := 27) dX3_findsRelic_27 kc3 fl_X3_18 rfl ?_
            refine J_al (pc := 30) dX3_findsRelic_30 rfl (by decide) rfl ?_
            refine J_icmp_ge (pc := 31) (tgt := 115) dX3_findsRelic_31 (by decide) (fun c31 => absurd c31 (nI_ge (b := 10) hr10 (by decide))) (fun c31 => ?_)
            refine J_aload_n (pc := 34) dX3_findsRelic_34 rfl ?_
            refine J_getr (pc := 35) dX3_findsRelic_35 kc3 fl_X3_9 rfl ?_
            refine J_iload_n (pc := 38) dX3_findsRelic_38 rfl ?_
            refine J_il (pc := 39) dX3_findsRelic_39 rfl rfl ⟨hp, by decide⟩ ?_
            refine J_t1 PG_25 ?_
            refine J_iload_n (pc := 40) dX3_findsRelic_40 rfl ?_
            refine J_iand (pc := 41) dX3_findsRelic_41 ?_
            refine J_aload_n (pc := 42) dX3_findsRelic_42 rfl ?_
            refine J_geti (pc := 43) dX3_findsRelic_43 kc3 fl_X3_51 rfl ?_
            refine J_t1 (y := msk s1.2 10) sF_s2 ?_
            refine J_iconst (pc := 46) (v := -1) dX3_findsRelic_46 (by decide) ?_
            refine J_ixor (pc := 47) dX3_findsRelic_47 ?_
            refine J_iand (pc := 48) dX3_findsRelic_48 ?_
            refine J_iconst (pc := 49) (v := 1) dX3_findsRelic_49 (by decide) ?_
            refine J_iload (pc := 50) dX3_findsRelic_50 rfl ?_
            refine J_ishl (pc := 52) dX3_findsRelic_52 ?_
            refine J_iand (pc := 53) dX3_findsRelic_53 ?_
            refine J_if_eq (pc := 54) (tgt := 109) dX3_findsRelic_54 (by decide) (fun c54 => absurd c54 (fun z => hcond.mp z c)) (fun c54 => ?_)
            refine J_aload_n (pc := 57) dX3_findsRelic_57 rfl ?_
            refine J_dup (pc := 58) dX3_findsRelic_58 rfl ?_
            refine J_geti (pc := 59) dX3_findsRelic_59 kc3 fl_X3_51 rfl ?_
            refine J_t1 (y := msk s1.2 10) sF_s2 ?_
            refine J_iconst (pc := 62) (v := 1) dX3_findsRelic_62 (by decide) ?_
            refine J_iload (pc := 63) dX3_findsRelic_63 rfl ?_
            refine J_ishl (pc := 65) dX3_findsRelic_65 ?_
            refine J_ior (pc := 66) dX3_findsRelic_66 ?_
            refine J_t1 hmask ?_
            refine J_puti (pc := 67) dX3_findsRelic_67 kc3 fl_X3_51 rfl ⟨rfl, rfl⟩ ?_
            rw [PG_f]
            refine J_aload_n (pc := 70) dX3_findsRelic_70 rfl ?_
            refine J_getr (pc := 71) dX3_findsRelic_71 kc3 fl_X3_18 rfl ?_
            refine J_iload (pc := 74) dX3_findsRelic_74 rfl ?_
            refine J_il (pc := 76) dX3_findsRelic_76 rfl rfl ⟨hr10, by decide⟩ ?_
            refine J_t1 (PG_r hr10) ?_
            rw [ht]
            refine J_iconst (pc := 77) (v := -1) dX3_findsRelic_77 (by decide) ?_
            refine J_icmp_eq (pc := 78) (tgt := 99) dX3_findsRelic_78 (by decide) (fun c78 => absurd c78 (nI_nm (k := q) (by omega))) (fun c78 => ?_)
            refine J_aload_n (pc := 81) dX3_findsRelic_81 rfl ?_
            refine J_aload_n (pc := 82) dX3_findsRelic_82 rfl ?_
            refine J_getr (pc := 83) dX3_findsRelic_83 kc3 fl_X3_18 rfl ?_
            refine J_iload (pc := 86) dX3_findsRelic_86 rfl ?_
            refine J_il (pc := 88) dX3_findsRelic_88 rfl rfl ⟨hr10, by decide⟩ ?_
            refine J_t1 (PG_r hr10) ?_
            rw [ht]
            refine J_iload_n (pc := 89) dX3_findsRelic_89 rfl ?_
            refine J_iload_n (pc := 90) dX3_findsRelic_90 rfl ?_
            refine J_iconst (pc := 91) (v := 1) dX3_findsRelic_91 (by decide) ?_
            refine J_iadd (pc := 92) dX3_findsRelic_92 ?_
            rw [nI_1]
            refine J_cvr (pc := 93) (N := mX3_findsRelic) dX3_findsRelic_93 ml_X3_54 cf_X3_findsRelic cv_X3_findsRelic hcall rfl rfl (Nat.le_of_ble_eq_true rfl) (Nat.le_refl _) (rv_of (ci := 3) rfl rfl rfl) ?_
            refine J_if_eq (pc := 96) (tgt := 109) dX3_findsRelic_96 (by decide) (fun c96 => ?_) (fun c96 => ?_)
            · have hs : ¬ y.1 = true := fun z => by rw [z] at c96; exact absurd c96 (by decide)
              rw [if_neg hs] at he
              refine J_iinc (pc := 109) (v := 1) dX3_findsRelic_109 rfl (by decide) rfl ?_
              rw [nI_1]
              refine J_goto (pc := 112) (tgt := 24) dX3_findsRelic_112 (by decide) ?_
              exact lh (r + 1) y.2 (by omega) hTy he
            · have hs : y.1 = true := by cases e : y.1 with | true => rfl | false => rw [e] at c96; exact absurd rfl c96
              rw [if_pos hs] at he
              rw [← he] at hQ
              refine J_aload_n (pc := 99) dX3_findsRelic_99 rfl ?_
              refine J_getr (pc := 100) dX3_findsRelic_100 kc3 fl_X3_18 rfl ?_
              refine J_iload (pc := 103) dX3_findsRelic_103 rfl ?_
              refine J_iload_n (pc := 105) dX3_findsRelic_105 rfl ?_
              refine J_is (pc := 106) dX3_findsRelic_106 rfl rfl ⟨hr10, by decide⟩ ?_
              rw [PG_a S _ _ hr10]
              refine J_iconst (pc := 107) (v := 1) dX3_findsRelic_107 (by decide) ?_
              exact J_iret (pc := 108) rfl rfl rfl dX3_findsRelic_108 (rq hQ rfl rfl)
        · have hf : flp (fnd8 E k) (E p) p (m + 1) r s1 = flp (fnd8 E k) (E p) p m (r + 1) s1 := if_neg c
          rw [hf] at he
          refine J_iload (pc := 24) dX3_findsRelic_24 rfl ?_
          refine J_aload_n (pc := 26) dX3_findsRelic_26 rfl ?_
          refine J_getr (pc := 27) dX3_findsRelic_27 kc3 fl_X3_18 rfl ?_
          refine J_al (pc := 30) dX3_findsRelic_30 rfl (by decide) rfl ?_
          refine J_icmp_ge (pc := 31) (tgt := 115) dX3_findsRelic_31 (by decide) (fun c31 => absurd c31 (nI_ge (b := 10) hr10 (by decide))) (fun c31 => ?_)
          refine J_aload_n (pc := 34) dX3_findsRelic_34 rfl ?_
          refine J_getr (pc := 35) dX3_findsRelic_35 kc3 fl_X3_9 rfl ?_
          refine J_iload_n (pc := 38) dX3_findsRelic_38 rfl ?_
          refine J_il (pc := 39) dX3_findsRelic_39 rfl rfl ⟨hp, by decide⟩ ?_
          refine J_t1 PG_25 ?_
          refine J_iload_n (pc := 40) dX3_findsRelic_40 rfl ?_
          refine J_iand (pc := 41) dX3_findsRelic_41 ?_
          refine J_aload_n (pc := 42) dX3_findsRelic_42 rfl ?_
          refine J_geti (pc := 43) dX3_findsRelic_43 kc3 fl_X3_51 rfl ?_
          refine J_t1 (y := msk s1.2 10) sF_s2 ?_
          refine J_iconst (pc := 46) (v := -1) dX3_findsRelic_46 (by decide) ?_
          refine J_ixor (pc := 47) dX3_findsRelic_47 ?_
          refine J_iand (pc := 48) dX3_findsRelic_48 ?_
          refine J_iconst (pc := 49) (v := 1) dX3_findsRelic_49 (by decide) ?_
          refine J_iload (pc := 50) dX3_findsRelic_50 rfl ?_
          refine J_ishl (pc := 52) dX3_findsRelic_52 ?_
          refine J_iand (pc := 53) dX3_findsRelic_53 ?_
          refine J_if_eq (pc := 54) (tgt := 109) dX3_findsRelic_54 (by decide) (fun c54 => ?_) (fun c54 => absurd (hcond.mpr c) c54)
          refine J_iinc (pc := 109) (v := 1) dX3_findsRelic_109 rfl (by decide) rfl ?_
          rw [nI_1]
          refine J_goto (pc := 112) (tgt := 24) dX3_findsRelic_112 (by decide) ?_
          exact lh (r + 1) s1 (by omega) hT1 he
    exact key 10 0 s rfl hT rfl
def pgF (x k : Nat) : Bool := decide (x = 24 ∧ k = 3)
def pgA (x : Nat) : Bool := decide (x = 27)
theorem PG_F (S : Sx) (t : Nat → Option Nat) (v : Int32) : FRC pgF pgA S (PGv S t v) := ⟨⟨fun x k q => by
  have : ¬ (x = 24 ∧ k = 3) := of_decide_eq_false q
  show up2 (sf S) 24 3 v x k = _
  unfold up2
  by_cases e : x = 24
  · rw [if_pos e, if_neg (fun z => this ⟨e, z⟩)]
  · rw [if_neg e], rfl, fun x q => if_neg (of_decide_eq_false q)⟩, rfl⟩
theorem r_X3_mostPairs {g : Gp} {S : Sx} {fr : Int32} {E : Nat → Nat → Bool} (hE : ∀ p r, p < 8 → r < 10 → E p r = bt (sa S 25 p &&& fr) r) {lo np : Nat} (h8 : np ≤ 8) (hlo : lo ≤ np) : RI g mX3_mostPairs 10 [.ref 24, .int (nI lo), .int (nI np), .int fr] S (fun x X => x = nI (mx E (np - lo) lo (fun _ => false)) ∧ FRC pgF pgA S X) := by
  refine RI_ofQ ⟨rfl, rfl⟩ (Nat.le_of_ble_eq_true rfl) (fun sz Q hQ => ?_)
  refine J_iconst (pc := 0) (v := 0) dX3_mostPairs_0 (by decide) ?_
  refine J_istore (pc := 1) dX3_mostPairs_1 (by decide) rfl ?_
  have key : ∀ m i X, i + m = 10 → FRC (fun _ _ => false) pgA S X → (∀ k, k < i → sa X 27 k = -1) → (∀ k, i ≤ k → sa X 27 k = sa S 27 k) → sx X = sx S → J g mX3_mostPairs 10 [] 3 [some (.ref 24), some (.int (nI lo)), some (.int (nI np)), some (.int fr), some (.int (nI i)), none] [] (hs X) sz 0 0 Q := by
    intro m
    induction m with
    | zero =>
      intro i X hm hf h1 h2 h3
      have hi : i = 10 := by omega
      subst hi
      have hXe : ∀ v, sF X 24 3 v = PGv S (fun _ => none) v := by
        intro v
        have e1 : sf X = sf S := by funext x k; exact hf.1.1 x k rfl
        have e2 : sa X = fun a => if a = 27 then (fun k => if k < 10 then ov none else sa S 27 k) else sa S a := by
          funext a
          by_cases e : a = 27
          · subst e
            rw [if_pos rfl]
            funext k
            by_cases z : k < 10
            · rw [if_pos z]; exact h1 k z
            · rw [if_neg z]; exact h2 k (by omega)
          · rw [if_neg e]; exact hf.1.2.2 a (decide_eq_false e)
        show (up2 (sf X) 24 3 v, sp X, sa X, sl X, sx X) = _
        rw [e1, e2, h3, hf.1.2.1, hf.2]
        rfl
      have hXv : X = PGv S (fun _ => none) (sf S 24 3) := by
        rw [← hXe, ← hf.1.1 24 3 rfl]
        exact (sF_same rfl).symm
      subst hXv
      have key2 : ∀ m p t v c, p + m = np → lo ≤ p → TKt t → c ≤ p → mpl E m p t c = mx E (np - lo) lo (fun _ => false) → J g mX3_mostPairs 10 [] 33 [some (.ref 24), some (.int (nI lo)), some (.int (nI np)), some (.int fr), some (.int (nI c)), some (.int (nI p))] [] (hs (PGv S t v)) sz 0 0 Q := by
        intro m
        induction m with
        | zero =>
          intro p t v c hm hlp hT hc he
          have hpe : p = np := by omega
          subst hpe
          have he : c = _ := he
          refine J_iload (pc := 33) dX3_mostPairs_33 rfl ?_
          refine J_iload_n (pc := 35) dX3_mostPairs_35 rfl ?_
          refine J_icmp_ge (pc := 36) (tgt := 64) dX3_mostPairs_36 (by decide) (fun c36 => ?_) (fun c36 => absurd (Int32.le_refl _) c36)
          refine J_iload (pc := 64) dX3_mostPairs_64 rfl ?_
          exact J_iret (pc := 66) rfl rfl rfl dX3_mostPairs_66 (hQ _ _ ⟨by rw [← he], PG_F S t v⟩)
        | succ m mh =>
          intro p t v c hm hlp hT hc he
          have hp8 : p < 8 := by omega
          have he : mpl E m (p + 1) (fnd8 E 9 p (t, fun _ => false)).2.1 (if (fnd8 E 9 p (t, fun _ => false)).1 = true then c + 1 else c) = _ := he
          obtain ⟨y, hy⟩ : ∃ y, y = fnd8 E 9 p (t, fun _ => false) := ⟨_, rfl⟩
          have hcall := r_X3_findsRelic (g := g) (S := S) hE 9 p 0 (t, fun _ => false) rfl hp8 hT
          have hTy : TKt y.2.1 := by rw [hy]; exact TK_fnd 9 p _ hp8 hT
          rw [← hy] at he hcall
          refine J_iload (pc := 33) dX3_mostPairs_33 rfl ?_
          refine J_iload_n (pc := 35) dX3_mostPairs_35 rfl ?_
          refine J_icmp_ge (pc := 36) (tgt := 64) dX3_mostPairs_36 (by decide) (fun c36 => absurd c36 (nI_ge (by omega) (by omega))) (fun c36 => ?_)
          refine J_aload_n (pc := 39) dX3_mostPairs_39 rfl ?_
          refine J_iconst (pc := 40) (v := 0) dX3_mostPairs_40 (by decide) ?_
          refine J_puti (pc := 41) dX3_mostPairs_41 kc3 fl_X3_51 rfl ⟨rfl, rfl⟩ ?_
          rw [PG_f]
          refine J_cg2 (S' := PG S (t, fun _ => false)) (by show PGv S t 0 = PGv S t (msk (fun _ => false) 10); rw [msk_no]) ?_
          refine J_aload_n (pc := 44) dX3_mostPairs_44 rfl ?_
          refine J_iload (pc := 45) dX3_mostPairs_45 rfl ?_
          refine J_iload_n (pc := 47) dX3_mostPairs_47 rfl ?_
          refine J_iconst (pc := 48) (v := 0) dX3_mostPairs_48 (by decide) ?_
          refine J_cvr (pc := 49) (N := mX3_findsRelic) dX3_mostPairs_49 ml_X3_54 cf_X3_findsRelic cv_X3_findsRelic hcall rfl rfl (Nat.le_of_ble_eq_true rfl) (by decide) (rv_of (ci := 3) rfl rfl rfl) ?_
          refine J_if_eq (pc := 52) (tgt := 58) dX3_mostPairs_52 (by decide) (fun c52 => ?_) (fun c52 => ?_)
          · have hs : ¬ y.1 = true := fun z => by rw [z] at c52; exact absurd c52 (by decide)
            rw [if_neg hs] at he
            refine J_iinc (pc := 58) (v := 1) dX3_mostPairs_58 rfl (by decide) rfl ?_
            rw [nI_1]
            refine J_goto (pc := 61) (tgt := 33) dX3_mostPairs_61 (by decide) ?_
            exact mh (p + 1) y.2.1 _ _ (by omega) (by omega) hTy (by omega) he
          · have hs : y.1 = true := by cases e : y.1 with | true => rfl | false => rw [e] at c52; exact absurd rfl c52
            rw [if_pos hs] at he
            refine J_iinc (pc := 55) (v := 1) dX3_mostPairs_55 rfl (by decide) rfl ?_
            rw [nI_1]
            refine J_iinc (pc := 58) (v := 1) dX3_mostPairs_58 rfl (by decide) rfl ?_
            rw [nI_1]
            refine J_goto (pc := 61) (tgt := 33) dX3_mostPairs_61 (by decide) ?_
            exact mh (p + 1) y.2.1 _ _ (by omega) (by omega) hTy (by omega) he
      refine J_iload (pc := 3) dX3_mostPairs_3 rfl ?_
      refine J_aload_n (pc := 5) dX3_mostPairs_5 rfl ?_
      refine J_getr (pc := 6) dX3_mostPairs_6 kc3 fl_X3_18 rfl ?_
      refine J_al (pc := 9) dX3_mostPairs_9 rfl (by decide) rfl ?_
      refine J_icmp_ge (pc := 10) (tgt := 27) dX3_mostPairs_10 (by decide) (fun c10 => ?_) (fun c10 => absurd (Int32.le_refl _) c10)
      refine J_iconst (pc := 27) (v := 0) dX3_mostPairs_27 (by decide) ?_
      refine J_istore (pc := 28) dX3_mostPairs_28 (by decide) rfl ?_
      refine J_iload_n (pc := 30) dX3_mostPairs_30 rfl ?_
      refine J_istore (pc := 31) dX3_mostPairs_31 (by decide) rfl ?_
      exact key2 (np - lo) lo (fun _ => none) _ 0 (by omega) (Nat.le_refl _) (fun _ _ z => (nomatch z)) (Nat.zero_le _) (mpl_mx h8 hlo)
    | succ m ih =>
      intro i X hm hf h1 h2 h3
      refine J_iload (pc := 3) dX3_mostPairs_3 rfl ?_
      refine J_aload_n (pc := 5) dX3_mostPairs_5 rfl ?_
      refine J_getr (pc := 6) dX3_mostPairs_6 kc3 fl_X3_18 rfl ?_
      refine J_al (pc := 9) dX3_mostPairs_9 rfl (by decide) rfl ?_
      refine J_icmp_ge (pc := 10) (tgt := 27) dX3_mostPairs_10 (by decide) (fun c10 => absurd c10 (nI_ge (b := 10) (by omega) (by decide))) (fun c10 => ?_)
      refine J_aload_n (pc := 13) dX3_mostPairs_13 rfl ?_
      refine J_getr (pc := 14) dX3_mostPairs_14 kc3 fl_X3_18 rfl ?_
      refine J_iload (pc := 17) dX3_mostPairs_17 rfl ?_
      refine J_iconst (pc := 19) (v := -1) dX3_mostPairs_19 (by decide) ?_
      refine J_is (pc := 20) dX3_mostPairs_20 rfl rfl ⟨by omega, by decide⟩ ?_
      refine J_iinc (pc := 21) (v := 1) dX3_mostPairs_21 rfl (by decide) rfl ?_
      rw [nI_1]
      refine J_goto (pc := 24) (tgt := 3) dX3_mostPairs_24 (by decide) ?_
      refine ih (i + 1) _ (by omega) (FRC_A hf rfl) (fun k hk => ?_) (fun k hk => ?_) h3
      · by_cases e : k = i
        · subst e; exact sa_e _ _ _ _
        · rw [sa_n e]; exact h1 k (by omega)
      · rw [sa_n (by omega)]; exact h2 k (by omega)
  exact key 10 0 S rfl (FRC_r _ _ _) (fun k hk => absurd hk (Nat.not_lt_zero k)) (fun _ _ => rfl) rfl

/-! ===== who may have lapsed ===== -/
def lnV (l : List (Nat × Nat)) (r : Nat) : Int32 := match l.find? (fun q => q.1 == r) with
  | some q => nI q.2
  | none => -1
def SC (S : Sx) (q : Nat) (l : List (Nat × Nat)) : Prop := sf S q 1 = nI l.length ∧ ∀ r, r < 10 → sa S (q + 1) r = lnV l r
def plX (d : HD) (m : Nat) (wv : Nat → Nat × Nat) (f : Row) (r : Nat) : Int32 := pwX d m wv f r (f (16 + r) / 2 + 0) (f (8 + dOw d r) + 1) (f 44 + 0)
/-- no line of a relic of s below i is otherwise than the power P -/
def okL (d : HD) (l : List (Nat × Nat)) (P : Nat → Int32) (s i : Nat) : Bool := allB (fun r => !(decide (lnV l r ≠ -1) && (decide (dOw d r = s) && decide (P r ≠ lnV l r)))) i
def wIn (d : HD) (m : Nat) (wv : Nat → Nat × Nat) (f : Row) (l : List (Nat × Nat)) (i s : Nat) : Bool := decide (f (0 + s) = 0 ∧ kM d f s ≠ 0) && okL d l (plX d m wv f) s i
def wOut (d : HD) (m : Nat) (wv : Nat → Nat × Nat) (f : Row) (l : List (Nat × Nat)) (i s : Nat) : Bool := okL d l (pwN d m wv f) s i
def WG (S : Sx) (d : HD) (m : Nat) (wv : Nat → Nat × Nat) (f : Row) (l : List (Nat × Nat)) (i : Nat) (X : Sx) : Prop := off3 S X ∧ sf X 23 0 = msk (fun _ => true) (dNs d) ∧ sf X 23 1 = msk (wIn d m wv f l i) (dNs d) ∧ sf X 23 2 = msk (wOut d m wv f l i) (dNs d)
theorem SC_off {S X : Sx} {q : Nat} {l : List (Nat × Nat)} (hq : SLa q) (h : SC S q l) (ho : off3 S X) : SC X q l := by
  refine ⟨(ho.1 q 1 (by rcases hq with rfl | rfl <;> rfl)).trans h.1, fun r hr => ?_⟩
  rw [ho.2.2.1 (q + 1) (by rcases hq with rfl | rfl <;> rfl)]
  exact h.2 r hr
theorem allB_s (p : Nat → Bool) (n : Nat) : allB p (n + 1) = (allB p n && p n) := rfl
theorem okL_n {d : HD} {l : List (Nat × Nat)} {P : Nat → Int32} {s i : Nat} (h : ¬ (lnV l i ≠ -1 ∧ P i ≠ lnV l i)) : okL d l P s (i + 1) = okL d l P s i := by
  unfold okL
  rw [allB_s]
  by_cases h1 : lnV l i = -1
  · simp [h1]
  · by_cases h2 : P i = lnV l i
    · simp [h2]
    · exact absurd ⟨h1, h2⟩ h
theorem okL_y {d : HD} {l : List (Nat × Nat)} {P : Nat → Int32} {s i : Nat} (h1 : lnV l i ≠ -1) (h2 : P i ≠ lnV l i) : okL d l P s (i + 1) = (okL d l P s i && !decide (s = dOw d i)) := by
  unfold okL
  rw [allB_s]
  by_cases e : dOw d i = s
  · subst e; simp [h1, h2]
  · simp [e, show ¬ s = dOw d i from fun z => e z.symm]
theorem r_X7_weigh {g : Gp} {S : Sx} {a b m : Nat} {d : HD} {wv : Nat → Nat × Nat} {f : Row} (hX : CX S 3 16 17 a b d m wv f) {q : Nat} {l : List (Nat × Nat)} (hSL : SLa q) (hSC : SC S q l) : RU g mX7_weigh 6 [.ref 23, .ref 3, .ref q] S (WG S d m wv f l (dNr d)) := by
  refine RU_ofQ ⟨rfl, rfl⟩ (Nat.le_of_ble_eq_true rfl) (fun sz Q hQ => ?_)
  obtain ⟨hCL, hHL, hLL, hp2, hp3, hHC, hv, hW, hLC, hRC⟩ := id hX
  have n1 : dNs d ≤ 8 := hv.1
  have n2 : dNr d ≤ 10 := hv.2.1
  have n3 : dNp d ≤ 8 := hv.2.2.1
  refine J_aload_n (pc := 0) dX7_weigh_0 rfl ?_
  refine J_iconst (pc := 1) (v := 1) dX7_weigh_1 (by decide) ?_
  refine J_aload_n (pc := 2) dX7_weigh_2 rfl ?_
  refine J_getpN (pc := 3) dX7_weigh_3 kc0 fl_X7_9 (by first | exact cvn_p2 (by assumption) | rfl) ?_
  refine J_tr hp2 ?_
  refine J_getiN (pc := 6) dX7_weigh_6 kc1 fl_X7_15 (by first | exact hou_i8 (by assumption) | rfl) ?_
  refine J_t1 hHC.1 ?_
  refine J_ishl (pc := 9) dX7_weigh_9 ?_
  refine J_iconst (pc := 10) (v := 1) dX7_weigh_10 (by decide) ?_
  refine J_isub (pc := 11) dX7_weigh_11 ?_
  refine J_t1 (bt_full (dNs d) (by omega)) ?_
  refine J_puti (pc := 12) dX7_weigh_12 kc7 fl_X7_21 rfl ⟨rfl, rfl⟩ ?_
  refine J_aload_n (pc := 15) dX7_weigh_15 rfl ?_
  refine J_aload_n (pc := 16) dX7_weigh_16 rfl ?_
  refine J_cnr (pc := 17) (N := mX0_keepers) dX7_weigh_17 ml_X7_26 cf_X0_keepers cv_X0_keepers (r_X0_keepers (S := sF S 23 0 _) (CX_F hX (by decide))) rfl rfl (Nat.le_of_ble_eq_true rfl) (by decide) (rv_of (ci := 0) (by first | exact cvn_n (by assumption) | rfl) rfl rfl) ?_
  refine J_puti (pc := 20) dX7_weigh_20 kc7 fl_X7_30 rfl ⟨rfl, rfl⟩ ?_
  refine J_aload_n (pc := 23) dX7_weigh_23 rfl ?_
  refine J_aload_n (pc := 24) dX7_weigh_24 rfl ?_
  refine J_geti (pc := 25) dX7_weigh_25 kc7 fl_X7_21 rfl ?_
  refine J_t1 (y := msk (fun _ => true) (dNs d)) rfl ?_
  refine J_puti (pc := 28) dX7_weigh_28 kc7 fl_X7_33 rfl ⟨rfl, rfl⟩ ?_
  refine J_iconst (pc := 31) (v := 0) dX7_weigh_31 (by decide) ?_
  refine J_istore_n (pc := 32) dX7_weigh_32 (by decide) rfl ?_
  have hW0 : WG S d m wv f l 0 (sF (sF (sF S 23 0 (msk (fun _ => true) (dNs d))) 23 1 (msk (fun s => decide (f (0 + s) = 0 ∧ kM d f s ≠ 0)) (dNs d))) 23 2 (msk (fun _ => true) (dNs d))) := by
    refine ⟨off3_F (off3_F (off3_F (off3_r S) rfl) rfl) rfl, rfl, ?_, ?_⟩
    · exact msk_congr (fun s _ => (Bool.and_true _).symm)
    · exact msk_congr (fun s _ => rfl)
  refine dn_ind (n := dNr d) (P := fun i => ∀ (X : Sx) (x4 : Option Value), WG S d m wv f l i X → J g mX7_weigh 6 [] 33 [some (.ref 23), some (.ref 3), some (.ref q), some (.int (ix i)), x4] [] (hs X) sz 0 0 Q) ?_ (fun i hi ih => ?_) 0 (Nat.zero_le _) _ _ hW0
  · intro X x4 hG
    obtain ⟨_, _, _, hp2, _, hHC, _, _, _, _⟩ := id (CX_off hX hG.1)
    refine J_iload_n (pc := 33) dX7_weigh_33 rfl ?_
    refine J_aload_n (pc := 34) dX7_weigh_34 rfl ?_
    refine J_getpN (pc := 35) dX7_weigh_35 kc0 fl_X7_9 (by first | exact cvn_p2 (by assumption) | rfl) ?_
    refine J_tr hp2 ?_
    refine J_getiN (pc := 38) dX7_weigh_38 kc1 fl_X7_36 (by first | exact hou_i9 (by assumption) | rfl) ?_
    refine J_icmp_ge (pc := 41) (tgt := 128) dX7_weigh_41 (by decide) (fun c41 => ?_) (fun c41 => absurd (ix_ge hHC.2.1) c41)
    exact J_ret (pc := 128) rfl rfl dX7_weigh_128 (hQ _ hG)
  · intro X x4 hG
    have hXX := CX_off hX hG.1
    obtain ⟨_, _, _, hp2, _, hHC, _, _, _, _⟩ := id hXX
    have hSC := SC_off hSL hSC hG.1
    have ow : dOw d i < dNs d := (hv.2.2.2.2.2.1 i hi).1
    obtain ⟨g1, g2, g3, g4⟩ := id hG
    have half : ∀ (Y : Sx) (x4 : Option Value), lnV l i ≠ -1 → off3 S Y → sf Y 23 0 = msk (fun _ => true) (dNs d) → sf Y 23 1 = msk (wIn d m wv f l i) (dNs d) → sf Y 23 2 = msk (wOut d m wv f l (i + 1)) (dNs d) → J g mX7_weigh 6 [] 94 [some (.ref 23), some (.ref 3), some (.ref q), some (.int (ix i)), some (.int ((1 : Int32) <<< (nI (dOw d i) &&& 31)))] [] (hs Y) sz 0 0 Q := by
      intro Y x4 hne y1 y2 y3 y4
      have hXY := CX_off hX y1
      obtain ⟨_, _, _, hp2, _, hHC, _, _, _, _⟩ := id hXY
      have hSC := SC_off hSL hSC (show off3 X Y from ⟨fun a k h => (y1.1 a k h).trans (g1.1 a k h).symm, fun a k h => (y1.2.1 a k h).trans (g1.2.1 a k h).symm, fun a h => (y1.2.2.1 a h).trans (g1.2.2.1 a h).symm, y1.2.2.2.trans g1.2.2.2.symm⟩)
      refine J_aload_n (pc := 94) dX7_weigh_94 rfl ?_
      refine J_iload_n (pc := 95) dX7_weigh_95 rfl ?_
      refine J_t1 (ix_nI i) ?_
      refine J_iconst (pc := 96) (v := 0) dX7_weigh_96 (by decide) ?_
      refine J_cg2 (S' := w1 Y Y) rfl ?_
      refine J_cnw (pc := 97) (N := mX0_powerIfLapsed) dX7_weigh_97 ml_X7_52 cf_X0_powerIfLapsed cv_X0_powerIfLapsed (r_X0_powerIfLapsed hXY hi) rfl rfl (Nat.le_of_ble_eq_true rfl) (by decide) (rv_of (ci := 0) (by first | exact cvn_n (by assumption) | rfl) rfl rfl) ?_
      intro T
      refine J_aload_n (pc := 100) dX7_weigh_100 rfl ?_
      refine J_getrN (pc := 101) dX7_weigh_101 kc6 fl_X7_39 (by first | exact sgt_r0 (by assumption) | rfl) ?_
      refine J_iload_n (pc := 104) dX7_weigh_104 rfl ?_
      refine J_il (pc := 105) dX7_weigh_105 (sgt_a0 hSL) (ix_nI i) ⟨by omega, by decide⟩ ?_
      refine J_t1 (hSC.2 i (by omega)) ?_
      refine J_icmp_eq (pc := 106) (tgt := 122) dX7_weigh_106 (by decide) (fun c106 => ?_) (fun c106 => ?_)
      · refine J_iinc (pc := 122) (v := 1) dX7_weigh_122 rfl (by decide) rfl ?_
        refine J_goto (pc := 125) (tgt := 33) dX7_weigh_125 (by decide) ?_
        exact ih _ _ ⟨off3_w1 y1, y2, y3.trans (msk_congr (fun s _ => by unfold wIn; rw [okL_n (fun z => z.2 c106)])), y4⟩
      · refine J_aload_n (pc := 109) dX7_weigh_109 rfl ?_
        refine J_dup (pc := 110) dX7_weigh_110 rfl ?_
        refine J_geti (pc := 111) dX7_weigh_111 kc7 fl_X7_30 rfl ?_
        refine J_t1 y3 ?_
        refine J_iload (pc := 114) dX7_weigh_114 rfl ?_
        refine J_iconst (pc := 116) (v := -1) dX7_weigh_116 (by decide) ?_
        refine J_ixor (pc := 117) dX7_weigh_117 ?_
        refine J_iand (pc := 118) dX7_weigh_118 ?_
        refine J_t1 (y := msk (wIn d m wv f l (i + 1)) (dNs d)) (msk_clr (by omega) ow (fun s _ => by unfold wIn; rw [okL_y hne c106, Bool.and_assoc])) ?_
        refine J_puti (pc := 119) dX7_weigh_119 kc7 fl_X7_30 rfl ⟨rfl, rfl⟩ ?_
        refine J_iinc (pc := 122) (v := 1) dX7_weigh_122 rfl (by decide) rfl ?_
        refine J_goto (pc := 125) (tgt := 33) dX7_weigh_125 (by decide) ?_
        exact ih _ _ ⟨off3_F (off3_w1 y1) rfl, y2, rfl, y4⟩
    refine J_iload_n (pc := 33) dX7_weigh_33 rfl ?_
    refine J_aload_n (pc := 34) dX7_weigh_34 rfl ?_
    refine J_getpN (pc := 35) dX7_weigh_35 kc0 fl_X7_9 (by first | exact cvn_p2 (by assumption) | rfl) ?_
    refine J_tr hp2 ?_
    refine J_getiN (pc := 38) dX7_weigh_38 kc1 fl_X7_36 (by first | exact hou_i9 (by assumption) | rfl) ?_
    refine J_icmp_ge (pc := 41) (tgt := 128) dX7_weigh_41 (by decide) (fun c41 => absurd c41 (ix_lt hHC.2.1 hi (by omega))) (fun c41 => ?_)
    refine J_aload_n (pc := 44) dX7_weigh_44 rfl ?_
    refine J_getrN (pc := 45) dX7_weigh_45 kc6 fl_X7_39 (by first | exact sgt_r0 (by assumption) | rfl) ?_
    refine J_iload_n (pc := 48) dX7_weigh_48 rfl ?_
    refine J_il (pc := 49) dX7_weigh_49 (sgt_a0 hSL) (ix_nI i) ⟨by omega, by decide⟩ ?_
    refine J_t1 (hSC.2 i (by omega)) ?_
    refine J_iconst (pc := 50) (v := -1) dX7_weigh_50 (by decide) ?_
    refine J_icmp_eq (pc := 51) (tgt := 122) dX7_weigh_51 (by decide) (fun c51 => ?_) (fun c51 => ?_)
    · refine J_iinc (pc := 122) (v := 1) dX7_weigh_122 rfl (by decide) rfl ?_
      refine J_goto (pc := 125) (tgt := 33) dX7_weigh_125 (by decide) ?_
      exact ih _ _ ⟨g1, g2, g3.trans (msk_congr (fun s _ => by unfold wIn; rw [okL_n (fun z => z.1 c51)])), g4.trans (msk_congr (fun s _ => by unfold wOut; rw [okL_n (fun z => z.1 c51)]))⟩
    · refine J_iconst (pc := 54) (v := 1) dX7_weigh_54 (by decide) ?_
      refine J_aload_n (pc := 55) dX7_weigh_55 rfl ?_
      refine J_getpN (pc := 56) dX7_weigh_56 kc0 fl_X7_9 (by first | exact cvn_p2 (by assumption) | rfl) ?_
      refine J_tr hp2 ?_
      refine J_getrN (pc := 59) dX7_weigh_59 kc1 fl_X7_45 (by first | exact hou_r3 (by assumption) | rfl) ?_
      refine J_iload_n (pc := 62) dX7_weigh_62 rfl ?_
      refine J_il (pc := 63) dX7_weigh_63 (by first | exact hou_a3 (by assumption) | rfl) (ix_nI i) ⟨by first | decide | omega, by decide⟩ ?_
      refine J_t1 ((hHC.2.2.2.2.1 _ hi).1) ?_
      refine J_ishl (pc := 64) dX7_weigh_64 ?_
      refine J_istore (pc := 65) dX7_weigh_65 (by decide) rfl ?_
      refine J_aload_n (pc := 67) dX7_weigh_67 rfl ?_
      refine J_iload_n (pc := 68) dX7_weigh_68 rfl ?_
      refine J_t1 (ix_nI i) ?_
      refine J_cg2 (S' := w1 X X) rfl ?_
      refine J_cnw (pc := 69) (N := mX0_powerOf) dX7_weigh_69 ml_X7_48 cf_X0_powerOf cv_X0_powerOf (r_X0_powerOf hXX hi) rfl rfl (Nat.le_of_ble_eq_true rfl) (by decide) (rv_of (ci := 0) (by first | exact cvn_n (by assumption) | rfl) rfl rfl) ?_
      intro T
      refine J_aload_n (pc := 72) dX7_weigh_72 rfl ?_
      refine J_getrN (pc := 73) dX7_weigh_73 kc6 fl_X7_39 (by first | exact sgt_r0 (by assumption) | rfl) ?_
      refine J_iload_n (pc := 76) dX7_weigh_76 rfl ?_
      refine J_il (pc := 77) dX7_weigh_77 (sgt_a0 hSL) (ix_nI i) ⟨by omega, by decide⟩ ?_
      refine J_t1 (hSC.2 i (by omega)) ?_
      refine J_icmp_eq (pc := 78) (tgt := 94) dX7_weigh_78 (by decide) (fun c78 => ?_) (fun c78 => ?_)
      · exact half _ none c51 (off3_w1 g1) g2 g3 (g4.trans (msk_congr (fun s _ => by unfold wOut; rw [okL_n (fun z => z.2 c78)])))
      · refine J_aload_n (pc := 81) dX7_weigh_81 rfl ?_
        refine J_dup (pc := 82) dX7_weigh_82 rfl ?_
        refine J_geti (pc := 83) dX7_weigh_83 kc7 fl_X7_33 rfl ?_
        refine J_t1 g4 ?_
        refine J_iload (pc := 86) dX7_weigh_86 rfl ?_
        refine J_iconst (pc := 88) (v := -1) dX7_weigh_88 (by decide) ?_
        refine J_ixor (pc := 89) dX7_weigh_89 ?_
        refine J_iand (pc := 90) dX7_weigh_90 ?_
        refine J_t1 (y := msk (wOut d m wv f l (i + 1)) (dNs d)) (msk_clr (by omega) ow (fun s _ => by unfold wOut; rw [okL_y c51 c78])) ?_
        refine J_puti (pc := 91) dX7_weigh_91 kc7 fl_X7_33 rfl ⟨rfl, rfl⟩ ?_
        exact half _ none c51 (off3_F (off3_w1 g1) rfl) g2 g3 rfl
def psB (I O : Nat → Bool) (ns k : Nat) : Bool := allB (fun s => if k.testBit s = true then I s else O s) ns
theorem allB_i {p : Nat → Bool} : ∀ {n : Nat}, allB p n = true ↔ ∀ k, k < n → p k = true
  | 0 => ⟨fun _ k h => absurd h (by omega), fun _ => rfl⟩
  | n + 1 => by
    rw [allB_s, Bool.and_eq_true, allB_i (n := n)]
    refine ⟨fun h k hk => ?_, fun h => ⟨fun k hk => h k (by omega), h n (by omega)⟩⟩
    by_cases e : k = n
    · rw [e]; exact h.2
    · exact h.1 k (by omega)
theorem z32 {x : Int32} : x = 0 ↔ ∀ k, k < 32 → bt x k = false := by
  refine ⟨fun h k _ => by rw [h]; exact bt_0 k, fun h => bt_ext (fun k hk => by rw [h k hk, bt_0])⟩
theorem ps_1 {I : Nat → Bool} {ns k : Nat} (hn : ns ≤ 8) (hk : k < 2 ^ ns) : nI k &&& (msk I ns ^^^ -1) = 0 ↔ ∀ s, s < ns → k.testBit s = true → I s = true := by
  rw [z32]
  have hb : ∀ s, ns ≤ s → k.testBit s = false := fun s hs => Nat.testBit_lt_two_pow (Nat.lt_of_lt_of_le hk (Nat.pow_le_pow_right (show 2 > 0 by decide) hs))
  refine ⟨fun h s hs ht => ?_, fun h s hs => ?_⟩
  · have := h s (by omega)
    rw [bt_and, bt_nI s (by omega), bt_xm _ (by omega), bt_msk I ns (by omega), decide_eq_true hs, ht] at this
    simpa using this
  · rw [bt_and, bt_nI s hs, bt_xm _ hs, bt_msk I ns (by omega)]
    by_cases e : s < ns
    · rw [decide_eq_true e]
      cases ht : k.testBit s
      · rfl
      · rw [h s e ht]; rfl
    · rw [hb s (by omega)]; rfl
theorem ps_2 {O : Nat → Bool} {ns k : Nat} (hn : ns ≤ 8) : msk (fun _ => true) ns &&& (nI k ^^^ -1) &&& (msk O ns ^^^ -1) = 0 ↔ ∀ s, s < ns → k.testBit s = false → O s = true := by
  rw [z32]
  refine ⟨fun h s hs ht => ?_, fun h s hs => ?_⟩
  · have := h s (by omega)
    rw [bt_and, bt_and, bt_xm _ (by omega), bt_xm _ (by omega), bt_nI s (by omega), bt_msk _ ns (by omega), bt_msk _ ns (by omega), decide_eq_true hs, ht] at this
    simpa using this
  · rw [bt_and, bt_and, bt_xm _ hs, bt_xm _ hs, bt_nI s hs, bt_msk _ ns (by omega), bt_msk _ ns (by omega)]
    by_cases e : s < ns
    · rw [decide_eq_true e]
      cases ht : k.testBit s
      · rw [h s e ht]; rfl
      · rfl
    · rw [decide_eq_false e]; rfl
theorem ps_i {I O : Nat → Bool} {ns k : Nat} (hn : ns ≤ 8) (hk : k < 2 ^ ns) : psB I O ns k = true ↔ (nI k &&& (msk I ns ^^^ -1) = 0 ∧ msk (fun _ => true) ns &&& (nI k ^^^ -1) &&& (msk O ns ^^^ -1) = 0) := by
  rw [ps_1 hn hk, ps_2 hn]
  unfold psB
  rw [allB_i]
  refine ⟨fun h => ⟨fun s hs ht => ?_, fun s hs ht => ?_⟩, fun h s hs => ?_⟩
  · have := h s hs; rw [if_pos ht] at this; exact this
  · have := h s hs; rw [if_neg (by rw [ht]; decide)] at this; exact this
  · cases ht : k.testBit s
    · rw [if_neg (by decide)]; exact h.2 s hs ht
    · rw [if_pos rfl]; exact h.1 s hs ht
theorem all_n : ∀ n, n ≤ 8 → msk (fun _ => true) n = nI (2 ^ n - 1) := by decide
theorem p2_8 {n : Nat} (h : n ≤ 8) : 0 < 2 ^ n ∧ 2 ^ n ≤ 256 := by
  have : ∀ n, n ≤ 8 → 0 < 2 ^ n ∧ 2 ^ n ≤ 256 := by decide
  exact this n h
theorem r_X7_isPossible {g : Gp} {S : Sx} {I O : Nat → Bool} {ns k : Nat} (g2 : sf S 23 0 = msk (fun _ => true) ns) (g3 : sf S 23 1 = msk I ns) (g4 : sf S 23 2 = msk O ns) (hn : ns ≤ 8) (hk : k < 2 ^ ns) : RT g mX7_isPossible 0 [.ref 23, .int (nI k)] S (some (.int (bI (decide (psB I O ns k = true))))) S := by
  refine RT_ofQ ⟨rfl, rfl⟩ (Nat.le_of_ble_eq_true rfl) (fun sz Q hQ => ?_)
  refine J_iload_n (pc := 0) dX7_isPossible_0 rfl ?_
  refine J_aload_n (pc := 1) dX7_isPossible_1 rfl ?_
  refine J_geti (pc := 2) dX7_isPossible_2 kc7 fl_X7_30 rfl ?_
  refine J_t1 g3 ?_
  refine J_iconst (pc := 5) (v := -1) dX7_isPossible_5 (by decide) ?_
  refine J_ixor (pc := 6) dX7_isPossible_6 ?_
  refine J_iand (pc := 7) dX7_isPossible_7 ?_
  refine J_if_ne (pc := 8) (tgt := 33) dX7_isPossible_8 (by decide) (fun c8 => ?_) (fun c8 => ?_)
  · refine J_iconst (pc := 33) (v := 0) dX7_isPossible_33 (by decide) ?_
    exact J_iret (pc := 34) rfl rfl rfl dX7_isPossible_34 (rq hQ (by first | exact Eq.symm (bI_t ((ps_i hn hk).mpr ⟨c8, c26⟩)) | exact Eq.symm (bI_f (fun z => c8 ((ps_i hn hk).mp z).1)) | exact Eq.symm (bI_f (fun z => c26 ((ps_i hn hk).mp z).2))) rfl)
  · refine J_aload_n (pc := 11) dX7_isPossible_11 rfl ?_
    refine J_geti (pc := 12) dX7_isPossible_12 kc7 fl_X7_21 rfl ?_
    refine J_t1 g2 ?_
    refine J_iload_n (pc := 15) dX7_isPossible_15 rfl ?_
    refine J_iconst (pc := 16) (v := -1) dX7_isPossible_16 (by decide) ?_
    refine J_ixor (pc := 17) dX7_isPossible_17 ?_
    refine J_iand (pc := 18) dX7_isPossible_18 ?_
    refine J_aload_n (pc := 19) dX7_isPossible_19 rfl ?_
    refine J_geti (pc := 20) dX7_isPossible_20 kc7 fl_X7_33 rfl ?_
    refine J_t1 g4 ?_
    refine J_iconst (pc := 23) (v := -1) dX7_isPossible_23 (by decide) ?_
    refine J_ixor (pc := 24) dX7_isPossible_24 ?_
    refine J_iand (pc := 25) dX7_isPossible_25 ?_
    refine J_if_ne (pc := 26) (tgt := 33) dX7_isPossible_26 (by decide) (fun c26 => ?_) (fun c26 => ?_)
    · refine J_iconst (pc := 33) (v := 0) dX7_isPossible_33 (by decide) ?_
      exact J_iret (pc := 34) rfl rfl rfl dX7_isPossible_34 (rq hQ (by first | exact Eq.symm (bI_t ((ps_i hn hk).mpr ⟨c8, c26⟩)) | exact Eq.symm (bI_f (fun z => c8 ((ps_i hn hk).mp z).1)) | exact Eq.symm (bI_f (fun z => c26 ((ps_i hn hk).mp z).2))) rfl)
    · refine J_iconst (pc := 29) (v := 1) dX7_isPossible_29 (by decide) ?_
      refine J_goto (pc := 30) (tgt := 34) dX7_isPossible_30 (by decide) ?_
      exact J_iret (pc := 34) rfl rfl rfl dX7_isPossible_34 (rq hQ (by first | exact Eq.symm (bI_t ((ps_i hn hk).mpr ⟨c8, c26⟩)) | exact Eq.symm (bI_f (fun z => c8 ((ps_i hn hk).mp z).1)) | exact Eq.symm (bI_f (fun z => c26 ((ps_i hn hk).mp z).2))) rfl)
theorem sm_1 {F : Nat → Bool} {n : Nat} (h : F n = true) : sm (fun k => bI (F k)) n + 1 = sm (fun k => bI (F k)) (n + 1) := by show _ = sm _ n + bI (F n); rw [h]; rfl
theorem sm_f {F : Nat → Bool} {n : Nat} (h : ¬ F n = true) : sm (fun k => bI (F k)) n = sm (fun k => bI (F k)) (n + 1) := by show _ = sm _ n + bI (F n); rw [Bool.eq_false_iff.mpr h]; exact (Int32.add_zero _).symm
theorem r_X7_sets {g : Gp} {S : Sx} {I O : Nat → Bool} {ns : Nat} {u v : Int32} (g2 : sf S 23 0 = msk (fun _ => true) ns) (g3 : sf S 23 1 = msk I ns) (g4 : sf S 23 2 = msk O ns) (hn : ns ≤ 8) : RT g mX7_sets 1 [.ref 23, .int u, .int v] S (some (.int (sm (fun k => bI (psB I O ns k && (decide (nI k &&& u = u) && decide (nI k &&& v = 0)))) (2 ^ ns)))) S := by
  refine RT_ofQ ⟨rfl, rfl⟩ (Nat.le_of_ble_eq_true rfl) (fun sz Q hQ => ?_)
  obtain ⟨p1, p2⟩ := p2_8 hn
  refine J_iconst (pc := 0) (v := 0) dX7_sets_0 (by decide) ?_
  refine J_istore_n (pc := 1) dX7_sets_1 (by decide) rfl ?_
  refine J_iconst (pc := 2) (v := 0) dX7_sets_2 (by decide) ?_
  refine J_istore (pc := 3) dX7_sets_3 (by decide) rfl ?_
  show J g mX7_sets 1 [] 5 [some (.ref 23), some (.int u), some (.int v), some (.int 0), some (.int 0)] [] (hs S) sz 0 0 Q
  refine dn_ind (n := 2 ^ ns) (P := fun i => J g mX7_sets 1 [] 5 [some (.ref 23), some (.int u), some (.int v), some (.int (sm (fun k => bI (psB I O ns k && (decide (nI k &&& u = u) && decide (nI k &&& v = 0)))) i)), some (.int (ix i))] [] (hs S) sz 0 0 Q) ?_ (fun i hi ih => ?_) 0 (Nat.zero_le _)
  · refine J_iload (pc := 5) dX7_sets_5 rfl ?_
    refine J_aload_n (pc := 7) dX7_sets_7 rfl ?_
    refine J_geti (pc := 8) dX7_sets_8 kc7 fl_X7_21 rfl ?_
    refine J_icmp_gt (pc := 11) (tgt := 47) dX7_sets_11 (by decide) (fun c11 => ?_) (fun c11 => absurd (by rw [g2, all_n ns hn, ix_nI]; exact nI_lt (by omega) (by omega)) c11)
    refine J_iload_n (pc := 47) dX7_sets_47 rfl ?_
    exact J_iret (pc := 48) rfl rfl rfl dX7_sets_48 (rq hQ rfl rfl)
  · refine J_iload (pc := 5) dX7_sets_5 rfl ?_
    refine J_aload_n (pc := 7) dX7_sets_7 rfl ?_
    refine J_geti (pc := 8) dX7_sets_8 kc7 fl_X7_21 rfl ?_
    refine J_icmp_gt (pc := 11) (tgt := 47) dX7_sets_11 (by decide) (fun c11 => absurd c11 (by rw [g2, all_n ns hn, ix_nI]; exact Int32.not_lt.mpr (nI_le (by omega) (by omega)))) (fun c11 => ?_)
    refine J_aload_n (pc := 14) dX7_sets_14 rfl ?_
    refine J_iload (pc := 15) dX7_sets_15 rfl ?_
    refine J_t1 (ix_nI i) ?_
    refine J_cvr (pc := 17) (N := mX7_isPossible) dX7_sets_17 ml_X7_56 cf_X7_isPossible cv_X7_isPossible (r_X7_isPossible g2 g3 g4 hn hi) rfl rfl (Nat.le_of_ble_eq_true rfl) (by decide) (rv_of (ci := 7) rfl rfl rfl) ?_
    refine J_ifp_eq (pc := 20) (tgt := 41) dX7_sets_20 (by decide) (fun c20 => ?_) (fun c20 => ?_)
    · rw [sm_f (F := (fun k => psB I O ns k && (decide (nI k &&& u = u) && decide (nI k &&& v = 0)))) (n := i) (fun z => c20 (Bool.and_eq_true_iff.mp z).1)]
      refine J_iinc (pc := 41) (v := 1) dX7_sets_41 rfl (by decide) rfl ?_
      refine J_goto (pc := 44) (tgt := 5) dX7_sets_44 (by decide) ?_
      exact ih
    · refine J_iload (pc := 23) dX7_sets_23 rfl ?_
      refine J_iload_n (pc := 25) dX7_sets_25 rfl ?_
      refine J_iand (pc := 26) dX7_sets_26 ?_
      refine J_iload_n (pc := 27) dX7_sets_27 rfl ?_
      refine J_icmp_ne (pc := 28) (tgt := 41) dX7_sets_28 (by decide) (fun c28 => ?_) (fun c28 => ?_)
      · rw [ix_nI] at c28
        rw [sm_f (F := (fun k => psB I O ns k && (decide (nI k &&& u = u) && decide (nI k &&& v = 0)))) (n := i) (fun z => c28 (of_decide_eq_true (Bool.and_eq_true_iff.mp (Bool.and_eq_true_iff.mp z).2).1))]
        refine J_iinc (pc := 41) (v := 1) dX7_sets_41 rfl (by decide) rfl ?_
        refine J_goto (pc := 44) (tgt := 5) dX7_sets_44 (by decide) ?_
        exact ih
      · rw [ix_nI] at c28
        refine J_iload (pc := 31) dX7_sets_31 rfl ?_
        refine J_iload_n (pc := 33) dX7_sets_33 rfl ?_
        refine J_iand (pc := 34) dX7_sets_34 ?_
        refine J_if_ne (pc := 35) (tgt := 41) dX7_sets_35 (by decide) (fun c35 => ?_) (fun c35 => ?_)
        · rw [ix_nI] at c35
          rw [sm_f (F := (fun k => psB I O ns k && (decide (nI k &&& u = u) && decide (nI k &&& v = 0)))) (n := i) (fun z => c35 (of_decide_eq_true (Bool.and_eq_true_iff.mp (Bool.and_eq_true_iff.mp z).2).2))]
          refine J_iinc (pc := 41) (v := 1) dX7_sets_41 rfl (by decide) rfl ?_
          refine J_goto (pc := 44) (tgt := 5) dX7_sets_44 (by decide) ?_
          exact ih
        · rw [ix_nI] at c35
          have hF : (fun k => psB I O ns k && (decide (nI k &&& u = u) && decide (nI k &&& v = 0))) i = true := by simp only [Bool.and_eq_true, decide_eq_true_eq]; exact ⟨c20, c28, c35⟩
          refine J_iinc (pc := 38) (v := 1) dX7_sets_38 rfl (by decide) rfl ?_
          refine J_cg1 (ls' := [some (.ref 23), some (.int u), some (.int v), some (.int (sm (fun k => bI (psB I O ns k && (decide (nI k &&& u = u) && decide (nI k &&& v = 0)))) (i + 1))), some (.int (ix i))]) (by rw [← sm_1 (F := (fun k => psB I O ns k && (decide (nI k &&& u = u) && decide (nI k &&& v = 0)))) hF]; rfl) ?_
          refine J_iinc (pc := 41) (v := 1) dX7_sets_41 rfl (by decide) rfl ?_
          refine J_goto (pc := 44) (tgt := 5) dX7_sets_44 (by decide) ?_
          exact ih
theorem r_X7_firstSet {g : Gp} {S : Sx} {I O : Nat → Bool} {ns : Nat} (g2 : sf S 23 0 = msk (fun _ => true) ns) (g3 : sf S 23 1 = msk I ns) (g4 : sf S 23 2 = msk O ns) (hn : ns ≤ 8) : RT g mX7_firstSet 1 [.ref 23] S (some (.int (fst1 (fun k => psB I O ns k) (2 ^ ns)))) S := by
  refine RT_ofQ ⟨rfl, rfl⟩ (Nat.le_of_ble_eq_true rfl) (fun sz Q hQ => ?_)
  obtain ⟨p1, p2⟩ := p2_8 hn
  refine J_iconst (pc := 0) (v := 0) dX7_firstSet_0 (by decide) ?_
  refine J_istore_n (pc := 1) dX7_firstSet_1 (by decide) rfl ?_
  refine dn_ind (n := 2 ^ ns) (P := fun i => (∀ j, j < i → ¬ (fun k => psB I O ns k) j = true) → J g mX7_firstSet 1 [] 2 [some (.ref 23), some (.int (ix i))] [] (hs S) sz 0 0 Q) ?_ (fun i hi ih => ?_) 0 (Nat.zero_le _) (fun j h => by omega)
  · intro hno
    refine J_iload_n (pc := 2) dX7_firstSet_2 rfl ?_
    refine J_aload_n (pc := 3) dX7_firstSet_3 rfl ?_
    refine J_geti (pc := 4) dX7_firstSet_4 kc7 fl_X7_21 rfl ?_
    refine J_icmp_gt (pc := 7) (tgt := 26) dX7_firstSet_7 (by decide) (fun c7 => ?_) (fun c7 => absurd (by rw [g2, all_n ns hn, ix_nI]; exact nI_lt (by omega) (by omega)) c7)
    refine J_iconst (pc := 26) (v := -1) dX7_firstSet_26 (by decide) ?_
    exact J_iret (pc := 27) rfl rfl rfl dX7_firstSet_27 (rq hQ (fst1_no hno).symm rfl)
  · intro hno
    refine J_iload_n (pc := 2) dX7_firstSet_2 rfl ?_
    refine J_aload_n (pc := 3) dX7_firstSet_3 rfl ?_
    refine J_geti (pc := 4) dX7_firstSet_4 kc7 fl_X7_21 rfl ?_
    refine J_icmp_gt (pc := 7) (tgt := 26) dX7_firstSet_7 (by decide) (fun c7 => absurd c7 (by rw [g2, all_n ns hn, ix_nI]; exact Int32.not_lt.mpr (nI_le (by omega) (by omega)))) (fun c7 => ?_)
    refine J_aload_n (pc := 10) dX7_firstSet_10 rfl ?_
    refine J_iload_n (pc := 11) dX7_firstSet_11 rfl ?_
    refine J_t1 (ix_nI i) ?_
    refine J_cvr (pc := 12) (N := mX7_isPossible) dX7_firstSet_12 ml_X7_56 cf_X7_isPossible cv_X7_isPossible (r_X7_isPossible g2 g3 g4 hn hi) rfl rfl (Nat.le_of_ble_eq_true rfl) (by decide) (rv_of (ci := 7) rfl rfl rfl) ?_
    refine J_ifp_eq (pc := 15) (tgt := 20) dX7_firstSet_15 (by decide) (fun c15 => ?_) (fun c15 => ?_)
    · refine J_iinc (pc := 20) (v := 1) dX7_firstSet_20 rfl (by decide) rfl ?_
      refine J_goto (pc := 23) (tgt := 2) dX7_firstSet_23 (by decide) ?_
      refine ih (fun j hj => ?_)
      by_cases e : j < i
      · exact hno j e
      · rw [show j = i by omega]; exact c15
    · refine J_iload_n (pc := 18) dX7_firstSet_18 rfl ?_
      exact J_iret (pc := 19) rfl rfl rfl dX7_firstSet_19 (rq hQ (by rw [fst1_at (p := (fun k => psB I O ns k)) c15 (by omega) hno hi, ix_nI]) rfl)
theorem r_X7_sureOnes {g : Gp} {S : Sx} {I O : Nat → Bool} {ns : Nat} (g2 : sf S 23 0 = msk (fun _ => true) ns) (g3 : sf S 23 1 = msk I ns) (g4 : sf S 23 2 = msk O ns) (hn : ns ≤ 8) : RT g mX7_sureOnes 2 [.ref 23] S (some (.int (if fst1 (fun k => psB I O ns k) (2 ^ ns) = -1 then 0 else fst1 (fun k => psB I O ns k) (2 ^ ns)))) S := by
  refine RT_ofQ ⟨rfl, rfl⟩ (Nat.le_of_ble_eq_true rfl) (fun sz Q hQ => ?_)
  refine J_aload_n (pc := 0) dX7_sureOnes_0 rfl ?_
  refine J_cvr (pc := 1) (N := mX7_firstSet) dX7_sureOnes_1 ml_X7_60 cf_X7_firstSet cv_X7_firstSet (r_X7_firstSet g2 g3 g4 hn) rfl rfl (Nat.le_of_ble_eq_true rfl) (by decide) (rv_of (ci := 7) rfl rfl rfl) ?_
  refine J_istore_n (pc := 4) dX7_sureOnes_4 (by decide) rfl ?_
  refine J_iload_n (pc := 5) dX7_sureOnes_5 rfl ?_
  refine J_iconst (pc := 6) (v := -1) dX7_sureOnes_6 (by decide) ?_
  refine J_icmp_ne (pc := 7) (tgt := 14) dX7_sureOnes_7 (by decide) (fun c7 => ?_) (fun c7 => ?_)
  · refine J_iload_n (pc := 14) dX7_sureOnes_14 rfl ?_
    exact J_iret (pc := 15) rfl rfl rfl dX7_sureOnes_15 (rq hQ (by first | exact (if_neg c7).symm | exact (if_pos c7).symm) rfl)
  · refine J_iconst (pc := 10) (v := 0) dX7_sureOnes_10 (by decide) ?_
    refine J_goto (pc := 11) (tgt := 15) dX7_sureOnes_11 (by decide) ?_
    exact J_iret (pc := 15) rfl rfl rfl dX7_sureOnes_15 (rq hQ (by first | exact (if_neg c7).symm | exact (if_pos c7).symm) rfl)
theorem r_X7_leftAtWorst {g : Gp} {S : Sx} {r : Nat} {a b m : Nat} {d : HD} {wv : Nat → Nat × Nat} {f : Row} (hX : CX S 3 16 17 a b d m wv f) (hr : r < dNr d) {I O : Nat → Bool} (g2 : sf S 23 0 = msk (fun _ => true) (dNs d)) (g3 : sf S 23 1 = msk I (dNs d)) (g4 : sf S 23 2 = msk O (dNs d)) : RW g mX7_leftAtWorst 6 [.ref 23, .ref 3, .int (nI r)] S (some (.int (if pwN d m wv f r = plX d m wv f r then (sm (fun k => bI (psB I O (dNs d) k && (decide (nI k &&& 0 = 0) && decide (nI k &&& 0 = 0)))) (2 ^ dNs d)) else (if (sm (fun k => bI (psB I O (dNs d) k && (decide (nI k &&& ((1 : Int32) <<< (nI (dOw d r) &&& 31)) = ((1 : Int32) <<< (nI (dOw d r) &&& 31))) && decide (nI k &&& 0 = 0)))) (2 ^ dNs d)) < (sm (fun k => bI (psB I O (dNs d) k && (decide (nI k &&& 0 = 0) && decide (nI k &&& ((1 : Int32) <<< (nI (dOw d r) &&& 31)) = 0)))) (2 ^ dNs d)) then (sm (fun k => bI (psB I O (dNs d) k && (decide (nI k &&& 0 = 0) && decide (nI k &&& ((1 : Int32) <<< (nI (dOw d r) &&& 31)) = 0)))) (2 ^ dNs d)) else (sm (fun k => bI (psB I O (dNs d) k && (decide (nI k &&& ((1 : Int32) <<< (nI (dOw d r) &&& 31)) = ((1 : Int32) <<< (nI (dOw d r) &&& 31))) && decide (nI k &&& 0 = 0)))) (2 ^ dNs d)))))) S := by
  refine RW_ofQ ⟨rfl, rfl⟩ (Nat.le_of_ble_eq_true rfl) (fun T sz Q hQ => ?_)
  obtain ⟨hCL, hHL, hLL, hp2, hp3, hHC, hv, hW, hLC, hRC⟩ := id hX
  have n1 : dNs d ≤ 8 := hv.1
  have n2 : dNr d ≤ 10 := hv.2.1
  have n3 : dNp d ≤ 8 := hv.2.2.1
  refine J_aload_n (pc := 0) dX7_leftAtWorst_0 rfl ?_
  refine J_iload_n (pc := 1) dX7_leftAtWorst_1 rfl ?_
  refine J_cnw (pc := 2) (N := mX0_powerOf) dX7_leftAtWorst_2 ml_X7_48 cf_X0_powerOf cv_X0_powerOf (r_X0_powerOf hX hr) rfl rfl (Nat.le_of_ble_eq_true rfl) (by decide) (rv_of (ci := 0) (by first | exact cvn_n (by assumption) | rfl) rfl rfl) ?_
  intro T
  refine J_aload_n (pc := 5) dX7_leftAtWorst_5 rfl ?_
  refine J_iload_n (pc := 6) dX7_leftAtWorst_6 rfl ?_
  refine J_iconst (pc := 7) (v := 0) dX7_leftAtWorst_7 (by decide) ?_
  refine J_cnw (pc := 8) (N := mX0_powerIfLapsed) dX7_leftAtWorst_8 ml_X7_52 cf_X0_powerIfLapsed cv_X0_powerIfLapsed (r_X0_powerIfLapsed hX hr) rfl rfl (Nat.le_of_ble_eq_true rfl) (by decide) (rv_of (ci := 0) (by first | exact cvn_n (by assumption) | rfl) rfl rfl) ?_
  intro T
  refine J_icmp_ne (pc := 11) (tgt := 21) dX7_leftAtWorst_11 (by decide) (fun c11 => ?_) (fun c11 => ?_)
  · refine J_iconst (pc := 21) (v := 1) dX7_leftAtWorst_21 (by decide) ?_
    refine J_aload_n (pc := 22) dX7_leftAtWorst_22 rfl ?_
    refine J_getpN (pc := 23) dX7_leftAtWorst_23 kc0 fl_X7_9 (by first | exact cvn_p2 (by assumption) | rfl) ?_
    refine J_tr hp2 ?_
    refine J_getrN (pc := 26) dX7_leftAtWorst_26 kc1 fl_X7_45 (by first | exact hou_r3 (by assumption) | rfl) ?_
    refine J_iload_n (pc := 29) dX7_leftAtWorst_29 rfl ?_
    refine J_il (pc := 30) dX7_leftAtWorst_30 (by first | exact hou_a3 (by assumption) | rfl) (by first | with_reducible rfl | assumption | exact ix_nI _ | rfl) ⟨by first | decide | omega, by decide⟩ ?_
    refine J_t1 ((hHC.2.2.2.2.1 _ hr).1) ?_
    refine J_ishl (pc := 31) dX7_leftAtWorst_31 ?_
    refine J_istore_n (pc := 32) dX7_leftAtWorst_32 (by decide) rfl ?_
    refine J_aload_n (pc := 33) dX7_leftAtWorst_33 rfl ?_
    refine J_iload_n (pc := 34) dX7_leftAtWorst_34 rfl ?_
    refine J_iconst (pc := 35) (v := 0) dX7_leftAtWorst_35 (by decide) ?_
    refine J_cvr (pc := 36) (N := mX7_sets) dX7_leftAtWorst_36 ml_X7_63 cf_X7_sets cv_X7_sets (r_X7_sets (S := w1 S T) g2 g3 g4 n1) rfl rfl (Nat.le_of_ble_eq_true rfl) (by decide) (rv_of (ci := 7) rfl rfl rfl) ?_
    refine J_aload_n (pc := 39) dX7_leftAtWorst_39 rfl ?_
    refine J_iconst (pc := 40) (v := 0) dX7_leftAtWorst_40 (by decide) ?_
    refine J_iload_n (pc := 41) dX7_leftAtWorst_41 rfl ?_
    refine J_cvr (pc := 42) (N := mX7_sets) dX7_leftAtWorst_42 ml_X7_63 cf_X7_sets cv_X7_sets (r_X7_sets (S := w1 S T) g2 g3 g4 n1) rfl rfl (Nat.le_of_ble_eq_true rfl) (by decide) (rv_of (ci := 7) rfl rfl rfl) ?_
    refine J_mmax (pc := 45) dX7_leftAtWorst_45 ml_X7_66 (Nat.le_of_ble_eq_true rfl) ?_
    exact J_iret (pc := 48) rfl rfl rfl dX7_leftAtWorst_48 (rqw hQ (if_neg c11).symm rfl)
  · refine J_aload_n (pc := 14) dX7_leftAtWorst_14 rfl ?_
    refine J_iconst (pc := 15) (v := 0) dX7_leftAtWorst_15 (by decide) ?_
    refine J_iconst (pc := 16) (v := 0) dX7_leftAtWorst_16 (by decide) ?_
    refine J_cvr (pc := 17) (N := mX7_sets) dX7_leftAtWorst_17 ml_X7_63 cf_X7_sets cv_X7_sets (r_X7_sets (S := w1 S T) g2 g3 g4 n1) rfl rfl (Nat.le_of_ble_eq_true rfl) (by decide) (rv_of (ci := 7) rfl rfl rfl) ?_
    exact J_iret (pc := 20) rfl rfl rfl dX7_leftAtWorst_20 (rqw hQ (if_pos c11).symm rfl)
theorem r_X10_lapsed {g : Gp} {S : Sx} {a b m : Nat} {d : HD} {wv : Nat → Nat × Nat} {f : Row} (hX : CX S 3 16 17 a b d m wv f) {q : Nat} {l : List (Nat × Nat)} (hps : sp S 0 9 = q) (hSL : SLa q) (hSC : SC S q l) {x : Int32} (hx : 0 ≤ x ∧ x ≤ 2) : RE g mX10_lapsed 8 [.ref 0, .int x] S (some (.int (if x = 0 then (sm (fun k => bI (psB (wIn d m wv f l (dNr d)) (wOut d m wv f l (dNr d)) (dNs d) k && (decide (nI k &&& 0 = 0) && decide (nI k &&& 0 = 0)))) (2 ^ dNs d)) else if x = 1 then fst1 (fun k => psB (wIn d m wv f l (dNr d)) (wOut d m wv f l (dNr d)) (dNs d) k) (2 ^ dNs d) else if fst1 (fun k => psB (wIn d m wv f l (dNr d)) (wOut d m wv f l (dNr d)) (dNs d) k) (2 ^ dNs d) = -1 then 0 else fst1 (fun k => psB (wIn d m wv f l (dNr d)) (wOut d m wv f l (dNr d)) (dNs d) k) (2 ^ dNs d)))) S := by
  refine RE_ofQ ⟨rfl, rfl⟩ (Nat.le_of_ble_eq_true rfl) (fun sz Q hQ => ?_)
  obtain ⟨hCL, hHL, hLL, hp2, hp3, hHC, hv, hW, hLC, hRC⟩ := id hX
  have n1 : dNs d ≤ 8 := hv.1
  have n2 : dNr d ≤ 10 := hv.2.1
  have n3 : dNp d ≤ 8 := hv.2.2.1
  refine J_aload_n (pc := 0) dX10_lapsed_0 rfl ?_
  refine J_iload_n (pc := 1) dX10_lapsed_1 rfl ?_
  refine J_iconst (pc := 2) (v := 0) dX10_lapsed_2 (by decide) ?_
  refine J_iconst (pc := 3) (v := 2) dX10_lapsed_3 (by decide) ?_
  refine J_csr (pc := 4) (N := mX10_isWithin) dX10_lapsed_4 ml_X10_177 cf_X10_isWithin cs_X10_isWithin r_X10_isWithin rfl rfl (Nat.le_of_ble_eq_true rfl) (by decide) ?_
  refine J_t1 (bI_t hx) ?_
  refine J_cvv (pc := 7) (N := mX10_needArgument) dX10_lapsed_7 ml_X10_181 cf_X10_needArgument cv_X10_needArgument r_X10_needArgument_ok rfl rfl (Nat.le_of_ble_eq_true rfl) (by decide) (rv_of (ci := 10) rfl rfl rfl) ?_
  refine J_aload_n (pc := 10) dX10_lapsed_10 rfl ?_
  refine J_getr (pc := 11) dX10_lapsed_11 kc10 fl_X10_41 rfl ?_
  refine J_aload_n (pc := 14) dX10_lapsed_14 rfl ?_
  refine J_getr (pc := 15) dX10_lapsed_15 kc10 fl_X10_27 rfl ?_
  refine J_aload_n (pc := 18) dX10_lapsed_18 rfl ?_
  refine J_getp (pc := 19) dX10_lapsed_19 kc10 fl_X10_86 rfl ?_
  refine J_tr hps ?_
  refine J_cnU (pc := 22) (N := mX7_weigh) dX10_lapsed_22 ml_X10_278 cf_X7_weigh cv_X7_weigh (r_X7_weigh hX hSL hSC) rfl rfl (Nat.le_of_ble_eq_true rfl) (by decide) (rv_of (ci := 7) rfl rfl rfl) ?_
  intro X22 hX22
  obtain ⟨g1, g2, g3, g4⟩ := id hX22
  by_cases h0 : x = 0
  · subst h0
    refine J_iload_n (pc := 25) dX10_lapsed_25 rfl ?_
    refine J_lookup (pc := 26) (off := 26) (tgt := 52) dX10_lapsed_26 (by decide) (by decide) (by decide) ?_
    refine J_aload_n (pc := 52) dX10_lapsed_52 rfl ?_
    refine J_getr (pc := 53) dX10_lapsed_53 kc10 fl_X10_41 rfl ?_
    refine J_iconst (pc := 56) (v := 0) dX10_lapsed_56 (by decide) ?_
    refine J_iconst (pc := 57) (v := 0) dX10_lapsed_57 (by decide) ?_
    refine J_cnr (pc := 58) (N := mX7_sets) dX10_lapsed_58 ml_X10_282 cf_X7_sets cv_X7_sets (r_X7_sets g2 g3 g4 n1) rfl rfl (Nat.le_of_ble_eq_true rfl) (by decide) (rv_of (ci := 7) rfl rfl rfl) ?_
    exact J_iret (pc := 61) rfl rfl rfl dX10_lapsed_61 (hQ _ g1)
  by_cases h1 : x = 1
  · subst h1
    refine J_iload_n (pc := 25) dX10_lapsed_25 rfl ?_
    refine J_lookup (pc := 26) (off := 36) (tgt := 62) dX10_lapsed_26 (by decide) (by decide) (by decide) ?_
    refine J_aload_n (pc := 62) dX10_lapsed_62 rfl ?_
    refine J_getr (pc := 63) dX10_lapsed_63 kc10 fl_X10_41 rfl ?_
    refine J_cnr (pc := 66) (N := mX7_firstSet) dX10_lapsed_66 ml_X10_285 cf_X7_firstSet cv_X7_firstSet (r_X7_firstSet g2 g3 g4 n1) rfl rfl (Nat.le_of_ble_eq_true rfl) (by decide) (rv_of (ci := 7) rfl rfl rfl) ?_
    exact J_iret (pc := 69) rfl rfl rfl dX10_lapsed_69 (hQ _ g1)
  rw [if_neg h0, if_neg h1] at hQ
  refine J_iload_n (pc := 25) dX10_lapsed_25 rfl ?_
  refine J_lookup (pc := 26) (off := 44) (tgt := 70) dX10_lapsed_26 (by decide) (lk01 h0 h1) (by decide) ?_
  refine J_aload_n (pc := 70) dX10_lapsed_70 rfl ?_
  refine J_getr (pc := 71) dX10_lapsed_71 kc10 fl_X10_41 rfl ?_
  refine J_cnr (pc := 74) (N := mX7_sureOnes) dX10_lapsed_74 ml_X10_288 cf_X7_sureOnes cv_X7_sureOnes (r_X7_sureOnes g2 g3 g4 n1) rfl rfl (Nat.le_of_ble_eq_true rfl) (by decide) (rv_of (ci := 7) rfl rfl rfl) ?_
  exact J_iret (pc := 77) rfl rfl rfl dX10_lapsed_77 (hQ _ g1)
def lwC (d : HD) (m : Nat) (wv : Nat → Nat × Nat) (f : Row) (l : List (Nat × Nat)) (r : Nat) : Int32 := if pwN d m wv f r = plX d m wv f r then (sm (fun k => bI (psB (wIn d m wv f l (dNr d)) (wOut d m wv f l (dNr d)) (dNs d) k && (decide (nI k &&& 0 = 0) && decide (nI k &&& 0 = 0)))) (2 ^ dNs d)) else (if (sm (fun k => bI (psB (wIn d m wv f l (dNr d)) (wOut d m wv f l (dNr d)) (dNs d) k && (decide (nI k &&& ((1 : Int32) <<< (nI (dOw d r) &&& 31)) = ((1 : Int32) <<< (nI (dOw d r) &&& 31))) && decide (nI k &&& 0 = 0)))) (2 ^ dNs d)) < (sm (fun k => bI (psB (wIn d m wv f l (dNr d)) (wOut d m wv f l (dNr d)) (dNs d) k && (decide (nI k &&& 0 = 0) && decide (nI k &&& ((1 : Int32) <<< (nI (dOw d r) &&& 31)) = 0)))) (2 ^ dNs d)) then (sm (fun k => bI (psB (wIn d m wv f l (dNr d)) (wOut d m wv f l (dNr d)) (dNs d) k && (decide (nI k &&& 0 = 0) && decide (nI k &&& ((1 : Int32) <<< (nI (dOw d r) &&& 31)) = 0)))) (2 ^ dNs d)) else (sm (fun k => bI (psB (wIn d m wv f l (dNr d)) (wOut d m wv f l (dNr d)) (dNs d) k && (decide (nI k &&& ((1 : Int32) <<< (nI (dOw d r) &&& 31)) = ((1 : Int32) <<< (nI (dOw d r) &&& 31))) && decide (nI k &&& 0 = 0)))) (2 ^ dNs d)))
theorem akT_f {td : Nat → Bool} {ws : Nat → Int32} {r : Nat} (h : td r = true ∨ (¬ (akT td ws r).1 = -1 ∧ (akT td ws r).2 ≤ ws r)) : akT td ws (r + 1) = akT td ws r := by
  show (if td r = true then akT td ws r else if (akT td ws r).1 = -1 ∨ ws r < (akT td ws r).2 then (ix r, ws r) else akT td ws r) = _
  by_cases e : td r = true
  · rw [if_pos e]
  · rw [if_neg e]
    have h2 := h.resolve_left e
    rw [if_neg (fun z => z.elim h2.1 (fun z => Int32.not_le.mpr z h2.2))]
theorem akT_t {td : Nat → Bool} {ws : Nat → Int32} {r : Nat} (h : ¬ td r = true) (h2 : (akT td ws r).1 = -1 ∨ ws r < (akT td ws r).2) : akT td ws (r + 1) = (ix r, ws r) := by
  show (if td r = true then akT td ws r else if (akT td ws r).1 = -1 ∨ ws r < (akT td ws r).2 then (ix r, ws r) else akT td ws r) = _
  rw [if_neg h, if_pos h2]
theorem r_X10_ask {g : Gp} {S : Sx} {a b m : Nat} {d : HD} {wv : Nat → Nat × Nat} {f : Row} (hX : CX S 3 16 17 a b d m wv f) {q : Nat} {l : List (Nat × Nat)} (hps : sp S 0 9 = q) (hSL : SLa q) (hSC : SC S q l) {x : Int32} (hx : 0 ≤ x ∧ x ≤ 1) : RE g mX10_ask 8 [.ref 0, .int x] S (some (.int (if x = 0 then (akT (fun r => decide (lnV l r ≠ -1)) (lwC d m wv f l) (dNr d)).1 else (akT (fun r => decide (lnV l r ≠ -1)) (lwC d m wv f l) (dNr d)).2))) S := by
  refine RE_ofQ ⟨rfl, rfl⟩ (Nat.le_of_ble_eq_true rfl) (fun sz Q hQ => ?_)
  obtain ⟨hCL, hHL, hLL, hp2, hp3, hHC, hv, hW, hLC, hRC⟩ := id hX
  have n1 : dNs d ≤ 8 := hv.1
  have n2 : dNr d ≤ 10 := hv.2.1
  have n3 : dNp d ≤ 8 := hv.2.2.1
  refine J_aload_n (pc := 0) dX10_ask_0 rfl ?_
  refine J_iload_n (pc := 1) dX10_ask_1 rfl ?_
  refine J_iconst (pc := 2) (v := 0) dX10_ask_2 (by decide) ?_
  refine J_iconst (pc := 3) (v := 1) dX10_ask_3 (by decide) ?_
  refine J_csr (pc := 4) (N := mX10_isWithin) dX10_ask_4 ml_X10_177 cf_X10_isWithin cs_X10_isWithin r_X10_isWithin rfl rfl (Nat.le_of_ble_eq_true rfl) (by decide) ?_
  refine J_t1 (bI_t hx) ?_
  refine J_cvv (pc := 7) (N := mX10_needArgument) dX10_ask_7 ml_X10_181 cf_X10_needArgument cv_X10_needArgument r_X10_needArgument_ok rfl rfl (Nat.le_of_ble_eq_true rfl) (by decide) (rv_of (ci := 10) rfl rfl rfl) ?_
  refine J_aload_n (pc := 10) dX10_ask_10 rfl ?_
  refine J_getr (pc := 11) dX10_ask_11 kc10 fl_X10_41 rfl ?_
  refine J_aload_n (pc := 14) dX10_ask_14 rfl ?_
  refine J_getr (pc := 15) dX10_ask_15 kc10 fl_X10_27 rfl ?_
  refine J_aload_n (pc := 18) dX10_ask_18 rfl ?_
  refine J_getp (pc := 19) dX10_ask_19 kc10 fl_X10_86 rfl ?_
  refine J_tr hps ?_
  refine J_cnU (pc := 22) (N := mX7_weigh) dX10_ask_22 ml_X10_278 cf_X7_weigh cv_X7_weigh (r_X7_weigh hX hSL hSC) rfl rfl (Nat.le_of_ble_eq_true rfl) (by decide) (rv_of (ci := 7) rfl rfl rfl) ?_
  intro X22 hX22
  refine J_iconst (pc := 25) (v := -1) dX10_ask_25 (by decide) ?_
  refine J_istore_n (pc := 26) dX10_ask_26 (by decide) rfl ?_
  refine J_iconst (pc := 27) (v := -1) dX10_ask_27 (by decide) ?_
  refine J_istore_n (pc := 28) dX10_ask_28 (by decide) rfl ?_
  refine J_iconst (pc := 29) (v := 0) dX10_ask_29 (by decide) ?_
  refine J_istore (pc := 30) dX10_ask_30 (by decide) rfl ?_
  refine dn_ind (n := dNr d) (P := fun i => ∀ (X : Sx) (x5 : Option Value), WG S d m wv f l (dNr d) X → J g mX10_ask 8 [] 32 [some (.ref 0), some (.int x), some (.int (akT (fun r => decide (lnV l r ≠ -1)) (lwC d m wv f l) i).1), some (.int (akT (fun r => decide (lnV l r ≠ -1)) (lwC d m wv f l) i).2), some (.int (ix i)), x5] [] (hs X) sz 0 0 Q) ?_ (fun i hi ih => ?_) 0 (Nat.zero_le _) _ _ hX22
  · intro X x5 hG
    obtain ⟨g1, g2, g3, g4⟩ := id hG
    obtain ⟨_, _, _, hp2, _, hHC, _, _, _, _⟩ := id (CX_off hX g1)
    refine J_iload (pc := 32) dX10_ask_32 rfl ?_
    refine J_aload_n (pc := 34) dX10_ask_34 rfl ?_
    refine J_getr (pc := 35) dX10_ask_35 kc10 fl_X10_27 rfl ?_
    refine J_getpN (pc := 38) dX10_ask_38 kc0 fl_X10_54 (by first | exact cvn_p2 (by assumption) | rfl) ?_
    refine J_tr hp2 ?_
    refine J_getiN (pc := 41) dX10_ask_41 kc1 fl_X10_136 (by first | exact hou_i9 (by assumption) | rfl) ?_
    refine J_icmp_ge (pc := 44) (tgt := 99) dX10_ask_44 (by decide) (fun c44 => ?_) (fun c44 => absurd (ix_ge hHC.2.1) c44)
    refine J_iload_n (pc := 99) dX10_ask_99 rfl ?_
    refine J_if_ne (pc := 100) (tgt := 107) dX10_ask_100 (by decide) (fun c100 => ?_) (fun c100 => ?_)
    · refine J_iload_n (pc := 107) dX10_ask_107 rfl ?_
      exact J_iret (pc := 108) rfl rfl rfl dX10_ask_108 (by first | (rw [if_pos c100] at hQ; exact hQ _ g1) | (rw [if_neg c100] at hQ; exact hQ _ g1))
    · refine J_iload_n (pc := 103) dX10_ask_103 rfl ?_
      refine J_goto (pc := 104) (tgt := 108) dX10_ask_104 (by decide) ?_
      exact J_iret (pc := 108) rfl rfl rfl dX10_ask_108 (by first | (rw [if_pos c100] at hQ; exact hQ _ g1) | (rw [if_neg c100] at hQ; exact hQ _ g1))
  · intro X x5 hG
    obtain ⟨g1, g2, g3, g4⟩ := id hG
    have hXX := CX_off hX g1
    obtain ⟨_, _, _, hp2, _, hHC, _, _, _, _⟩ := id hXX
    have hSC := SC_off hSL hSC g1
    have hps : sp X 0 9 = q := (g1.2.1 0 9 (by decide)).trans hps
    refine J_iload (pc := 32) dX10_ask_32 rfl ?_
    refine J_aload_n (pc := 34) dX10_ask_34 rfl ?_
    refine J_getr (pc := 35) dX10_ask_35 kc10 fl_X10_27 rfl ?_
    refine J_getpN (pc := 38) dX10_ask_38 kc0 fl_X10_54 (by first | exact cvn_p2 (by assumption) | rfl) ?_
    refine J_tr hp2 ?_
    refine J_getiN (pc := 41) dX10_ask_41 kc1 fl_X10_136 (by first | exact hou_i9 (by assumption) | rfl) ?_
    refine J_icmp_ge (pc := 44) (tgt := 99) dX10_ask_44 (by decide) (fun c44 => absurd c44 (ix_lt hHC.2.1 hi (by omega))) (fun c44 => ?_)
    refine J_aload_n (pc := 47) dX10_ask_47 rfl ?_
    refine J_getp (pc := 48) dX10_ask_48 kc10 fl_X10_86 rfl ?_
    refine J_tr hps ?_
    refine J_getrN (pc := 51) dX10_ask_51 kc6 fl_X10_291 (by first | exact sgt_r0 (by assumption) | rfl) ?_
    refine J_iload (pc := 54) dX10_ask_54 rfl ?_
    refine J_il (pc := 56) dX10_ask_56 (sgt_a0 hSL) (ix_nI i) ⟨by omega, by decide⟩ ?_
    refine J_t1 (hSC.2 i (by omega)) ?_
    refine J_iconst (pc := 57) (v := -1) dX10_ask_57 (by decide) ?_
    refine J_icmp_ne (pc := 58) (tgt := 93) dX10_ask_58 (by decide) (fun c58 => ?_) (fun c58 => ?_)
    · rw [akT_f (td := fun r => decide (lnV l r ≠ -1)) (ws := lwC d m wv f l) (r := i) (Or.inl (decide_eq_true c58))] at ih
      refine J_iinc (pc := 93) (v := 1) dX10_ask_93 rfl (by decide) rfl ?_
      refine J_goto (pc := 96) (tgt := 32) dX10_ask_96 (by decide) ?_
      exact ih _ _ hG
    · refine J_aload_n (pc := 61) dX10_ask_61 rfl ?_
      refine J_getr (pc := 62) dX10_ask_62 kc10 fl_X10_41 rfl ?_
      refine J_aload_n (pc := 65) dX10_ask_65 rfl ?_
      refine J_getr (pc := 66) dX10_ask_66 kc10 fl_X10_27 rfl ?_
      refine J_iload (pc := 69) dX10_ask_69 rfl ?_
      refine J_t1 (ix_nI i) ?_
      refine J_cg2 (S' := w1 X X) rfl ?_
      refine J_cnw (pc := 71) (N := mX7_leftAtWorst) dX10_ask_71 ml_X10_293 cf_X7_leftAtWorst cv_X7_leftAtWorst (r_X7_leftAtWorst hXX hi g2 g3 g4) rfl rfl (Nat.le_of_ble_eq_true rfl) (by decide) (rv_of (ci := 7) rfl rfl rfl) ?_
      intro T
      refine J_t1 (y := lwC d m wv f l i) rfl ?_
      refine J_istore (pc := 74) dX10_ask_74 (by decide) rfl ?_
      refine J_iload_n (pc := 76) dX10_ask_76 rfl ?_
      refine J_iconst (pc := 77) (v := -1) dX10_ask_77 (by decide) ?_
      refine J_icmp_eq (pc := 78) (tgt := 87) dX10_ask_78 (by decide) (fun c78 => ?_) (fun c78 => ?_)
      · rw [akT_t (td := fun r => decide (lnV l r ≠ -1)) (ws := lwC d m wv f l) (r := i) (by simp [c58]) (Or.inl c78)] at ih
        refine J_iload (pc := 87) dX10_ask_87 rfl ?_
        refine J_istore_n (pc := 89) dX10_ask_89 (by decide) rfl ?_
        refine J_iload (pc := 90) dX10_ask_90 rfl ?_
        refine J_istore_n (pc := 92) dX10_ask_92 (by decide) rfl ?_
        refine J_iinc (pc := 93) (v := 1) dX10_ask_93 rfl (by decide) rfl ?_
        refine J_goto (pc := 96) (tgt := 32) dX10_ask_96 (by decide) ?_
        exact ih _ _ ⟨off3_w1 g1, g2, g3, g4⟩
      · refine J_iload (pc := 81) dX10_ask_81 rfl ?_
        refine J_iload_n (pc := 83) dX10_ask_83 rfl ?_
        refine J_icmp_ge (pc := 84) (tgt := 93) dX10_ask_84 (by decide) (fun c84 => ?_) (fun c84 => ?_)
        · rw [akT_f (td := fun r => decide (lnV l r ≠ -1)) (ws := lwC d m wv f l) (r := i) (Or.inr ⟨c78, c84⟩)] at ih
          refine J_iinc (pc := 93) (v := 1) dX10_ask_93 rfl (by decide) rfl ?_
          refine J_goto (pc := 96) (tgt := 32) dX10_ask_96 (by decide) ?_
          exact ih _ _ ⟨off3_w1 g1, g2, g3, g4⟩
        · rw [akT_t (td := fun r => decide (lnV l r ≠ -1)) (ws := lwC d m wv f l) (r := i) (by simp [c58]) (Or.inr (Int32.not_le.mp c84))] at ih
          refine J_iload (pc := 87) dX10_ask_87 rfl ?_
          refine J_istore_n (pc := 89) dX10_ask_89 (by decide) rfl ?_
          refine J_iload (pc := 90) dX10_ask_90 rfl ?_
          refine J_istore_n (pc := 92) dX10_ask_92 (by decide) rfl ?_
          refine J_iinc (pc := 93) (v := 1) dX10_ask_93 rfl (by decide) rfl ?_
          refine J_goto (pc := 96) (tgt := 32) dX10_ask_96 (by decide) ?_
          exact ih _ _ ⟨off3_w1 g1, g2, g3, g4⟩

/-! ===== pairs are chosen ===== -/
theorem mxr_cg {c c' : Nat → Bool} {v v' : Nat → Nat} {b b' : Nat} (hb : b = b') : ∀ (n : Nat), (∀ k, k < n → c k = c' k) → (∀ k, k < n → c k = true → v k = v' k) → mxr c v n b = mxr c' v' n b'
  | 0, _, _ => hb
  | n + 1, h1, h2 => by
    show max (mxr c v n b) (if c n = true then v n else 0) = max (mxr c' v' n b') (if c' n = true then v' n else 0)
    rw [mxr_cg hb n (fun k hk => h1 k (by omega)) (fun k hk => h2 k (by omega)), ← h1 n (Nat.lt_succ_self n)]
    by_cases e : c n = true
    · rw [if_pos e, if_pos e, h2 n (Nat.lt_succ_self n) e]
    · rw [if_neg e, if_neg e]
theorem mx_cg {E E' : Nat → Nat → Bool} : ∀ (n p : Nat) (U U' : Nat → Bool), (∀ a r, p ≤ a → a < p + n → r < 10 → (E a r && !U r) = (E' a r && !U' r)) → mx E n p U = mx E' n p U'
  | 0, _, _, _, _ => rfl
  | n + 1, p, U, U', h => by
    refine mxr_cg (mx_cg n (p + 1) U U' (fun a r h1 h2 => h a r (by omega) (by omega))) 10 (fun r hr => h p r (Nat.le_refl _) (by omega) hr) (fun r hr _ => ?_)
    show 1 + _ = 1 + _
    rw [mx_cg (E := E) (E' := E') n (p + 1) (fun i => U i || decide (i = r)) (fun i => U' i || decide (i = r)) (fun a r' h1 h2 h3 => by
      have := h a r' (by omega) (by omega) h3
      show (E a r' && !(U r' || decide (r' = r))) = (E' a r' && !(U' r' || decide (r' = r)))
      rw [Bool.not_or, Bool.not_or, ← Bool.and_assoc, ← Bool.and_assoc, this])]
def alM (d : HD) (m : Nat) (wv : Nat → Nat × Nat) (f : Row) (p : Nat) : Int32 := msk (fun r => decide (f (36 + p) = -1 ∧ f (26 + r) = 0 ∧ dIl d r = dPi d p ∧ nI (dPn d p) ≤ pwN d m wv f r)) (dNr d)
def eM (d : HD) (m : Nat) (wv : Nat → Nat × Nat) (f : Row) (p r : Nat) : Bool := bt (alM d m wv f p) r
theorem eM_n {d : HD} (hv : HV d) {m : Nat} {wv : Nat → Nat × Nat} {f : Row} {p r : Nat} (h : dNr d ≤ r) : ¬ eM d m wv f p r = true := by
  unfold eM alM
  rw [bt_msk _ _ (by have : dNr d ≤ 10 := hv.2.1; omega), decide_eq_false (by omega)]
  simp
theorem al_n {d : HD} (hv : HV d) {m : Nat} {wv : Nat → Nat × Nat} {f : Row} {p : Nat} (hf : ∀ r, r < dNr d → f (26 + r) = 0 ∨ f (26 + r) = 1) (h : f (36 + p) = -1) : msk (fun r => cnB d m wv f r p 0) (dNr d) &&& (msk (fun r => decide (f (26 + r) = 1)) (dNr d) ^^^ -1) = alM d m wv f p := by
  have h10 : dNr d ≤ 10 := hv.2.1
  apply bt_ext
  intro k hk
  unfold alM
  rw [bt_and, bt_xm _ hk, bt_msk _ _ (by omega), bt_msk _ _ (by omega), bt_msk _ _ (by omega)]
  by_cases e : k < dNr d
  · rw [decide_eq_true e, Bool.true_and, Bool.true_and, Bool.true_and]
    apply Bool.eq_iff_iff.mpr
    rw [Bool.and_eq_true, Bool.not_eq_true', decide_eq_false_iff_not, decide_eq_true_iff, cc_i]
    constructor
    · exact fun z => ⟨h, (hf k e).resolve_right z.2, z.1⟩
    · exact fun z => ⟨z.2.2, fun y => by rw [z.2.1] at y; exact absurd y (by decide)⟩
  · rw [decide_eq_false e]; rfl
theorem al_c {d : HD} {m : Nat} {wv : Nat → Nat × Nat} {f : Row} {p : Nat} (h : ¬ f (36 + p) = -1) : alM d m wv f p = 0 := (msk_congr (q := fun _ => false) (fun r _ => decide_eq_false (fun z => h z.1))).trans (msk_no _)
theorem msk_s10 : ∀ n, n ≤ 10 → (1 : Int32) <<< (nI n &&& 31) - 1 = msk (fun _ => true) n := by decide +kernel
def prF (x k : Nat) : Bool := decide (x = 24 ∧ k = 3)
def prA (x : Nat) : Bool := decide (25 ≤ x ∧ x ≤ 27)
theorem pr_H {a b : Nat} (ha : HLa a) (hb : LLa b) : (∀ k, 8 ≤ k → k ≤ 10 → prF a k = false) ∧ (∀ i, 1 ≤ i → i ≤ 8 → prA (a + i) = false) ∧ prF b 2 = false ∧ prA (b + 1) = false := ⟨fun k _ _ => decide_eq_false (fun z => by omega), fun i _ _ => decide_eq_false (fun z => by rcases ha with rfl | rfl <;> omega), decide_eq_false (fun z => by omega), decide_eq_false (fun z => by rcases hb with rfl | rfl <;> omega)⟩
theorem CX_pr {S X : Sx} {a b m : Nat} {d : HD} {wv : Nat → Nat × Nat} {f : Row} (hX : CX S 3 16 17 a b d m wv f) (hf : FRC prF prA S X) : CX X 3 16 17 a b d m wv f := by
  obtain ⟨h1, h2, h3, h4⟩ := pr_H hX.2.1 hX.2.2.1
  exact CX_R hX hf h1 h2 h3 h4 rfl
theorem r_X3_pair {g : Gp} {S : Sx} {a b m : Nat} {d : HD} {wv : Nat → Nat × Nat} {f : Row} (hX : CX S 3 16 17 a b d m wv f) : RU g mX3_pair 11 [.ref 24, .ref 3] S (fun X => FRC prF prA S X ∧ ∀ p, p < dNp d → sa X 26 p = lx (eM d m wv f) (dNp d) 0 (fun _ => false) p) := by
  refine RU_ofQ ⟨rfl, rfl⟩ (Nat.le_of_ble_eq_true rfl) (fun sz Q hQ => ?_)
  obtain ⟨hCL, hHL, hLL, hp2, hp3, hHC, hv, hW, hLC, hRC⟩ := id hX
  have n1 : dNs d ≤ 8 := hv.1
  have n2 : dNr d ≤ 10 := hv.2.1
  have n3 : dNp d ≤ 8 := hv.2.2.1
  have out : ∀ m1 p X U (fr : Int32) (l7 : Option Value), p + m1 = dNp d → FRC prF prA S X → (∀ q, q < dNp d → sa X 25 q = alM d m wv f q) → (∀ q, q < p → sa X 26 q = lx (eM d m wv f) (dNp d) 0 (fun _ => false) q) → (∀ j, p ≤ j → lx (eM d m wv f) (dNp d) 0 (fun _ => false) j = lx (eM d m wv f) m1 p U j) → (∀ r, r < 10 → (decide (r < dNr d) && !U r) = bt fr r) → J g mX3_pair 11 [] 87 [some (.ref 24), some (.ref 3), some (.int (nI (dNp d))), some (.int (nI (dNr d))), some (.int fr), some (.int (nI (mx (eM d m wv f) m1 p U))), some (.int (nI p)), l7] [] (hs X) sz 0 0 Q := by
    intro m1
    induction m1 with
    | zero =>
      intro p X U fr l7 hm hf h25 h26 hlx hU
      have hp : p = dNp d := by omega
      subst hp
      refine J_iload (pc := 87) dX3_pair_87 rfl ?_
      refine J_iload_n (pc := 89) dX3_pair_89 rfl ?_
      refine J_icmp_ge (pc := 90) (tgt := 199) dX3_pair_90 (by decide) (fun c90 => ?_) (fun c90 => absurd (Int32.le_refl _) c90)
      exact J_ret (pc := 199) rfl rfl dX3_pair_199 (hQ _ ⟨hf, h26⟩)
    | succ m1 ih =>
      intro p X U fr l7 hm hf h25 h26 hlx hU
      have hp8 : p < 8 := by omega
      have hml := mx_len (eM d m wv f) (m1 + 1) p U
      have hnx : ∀ X (fr' : Int32) (x : Option Nat) (l7 : Option Value), gch (eM d m wv f) m1 p U = x → FRC prF prA S X → (∀ q, q < dNp d → sa X 25 q = alM d m wv f q) → (∀ q, q < p → sa X 26 q = lx (eM d m wv f) (dNp d) 0 (fun _ => false) q) → sa X 26 p = ov x → (∀ r, r < 10 → (decide (r < dNr d) && !gU U x r) = bt fr' r) → J g mX3_pair 11 [] 193 [some (.ref 24), some (.ref 3), some (.int (nI (dNp d))), some (.int (nI (dNr d))), some (.int fr'), some (.int (nI (mx (eM d m wv f) m1 (p + 1) (gU U x)))), some (.int (nI p)), l7] [] (hs X) sz 0 0 Q := by
        intro X fr' x l7 hx hf h25 h26 h26p hU'
        refine J_iinc (pc := 193) (v := 1) dX3_pair_193 rfl (by decide) rfl ?_
        rw [nI_1]
        refine J_goto (pc := 196) (tgt := 87) dX3_pair_196 (by decide) ?_
        refine ih (p + 1) X (gU U x) fr' l7 (by omega) hf h25 (fun q hq => ?_) (fun j hj => ?_) hU'
        · by_cases e : q = p
          · subst e
            rw [h26p, hlx q (Nat.le_refl _)]
            show _ = (if q = q then ov (gch (eM d m wv f) m1 q U) else _)
            rw [if_pos rfl, hx]
          · exact h26 q (by omega)
        · rw [hlx j (by omega)]
          show (if j = p then ov (gch (eM d m wv f) m1 p U) else lx (eM d m wv f) m1 (p + 1) (gU U (gch (eM d m wv f) m1 p U)) j) = _
          rw [if_neg (by omega), hx]
      have inn : ∀ m2 r X, r + m2 = dNr d → (∀ j, j < r → ¬ gcc (eM d m wv f) m1 p U j = true) → FRC prF prA S X → (∀ q, q < dNp d → sa X 25 q = alM d m wv f q) → (∀ q, q < p → sa X 26 q = lx (eM d m wv f) (dNp d) 0 (fun _ => false) q) → sa X 26 p = -1 → J g mX3_pair 11 [] 104 [some (.ref 24), some (.ref 3), some (.int (nI (dNp d))), some (.int (nI (dNr d))), some (.int fr), some (.int (nI (mx (eM d m wv f) (m1 + 1) p U))), some (.int (nI p)), some (.int (nI r))] [] (hs X) sz 0 0 Q := by
        intro m2
        induction m2 with
        | zero =>
          intro r X hr hno hf h25 h26 h26p
          have hre : r = dNr d := by omega
          subst hre
          have hg : gch (eM d m wv f) m1 p U = none := fsx_n (fun j hj hc => by
            by_cases e : j < dNr d
            · exact hno j e hc
            · exact eM_n hv (by omega) (gcc_i.mp hc).1.1)
          refine J_iload (pc := 104) dX3_pair_104 rfl ?_
          refine J_iload_n (pc := 106) dX3_pair_106 rfl ?_
          refine J_icmp_ge (pc := 107) (tgt := 193) dX3_pair_107 (by decide) (fun c107 => ?_) (fun c107 => absurd (Int32.le_refl _) c107)
          rw [gch_n hg]
          exact hnx X fr none _ hg hf h25 h26 h26p hU
        | succ m2 lh =>
          intro r X hr hno hf h25 h26 h26p
          have hr10 : r < 10 := by omega
          have hrn : r < dNr d := by omega
          have hcnd : (alM d m wv f p &&& fr) &&& (1 : Int32) <<< (nI r &&& 31) = 0 ↔ ¬ (eM d m wv f p r = true ∧ ¬ U r = true) := by
            rw [an_0 (show r < 32 by omega), bt_and, ← hU r hr10, decide_eq_true hrn]
            show ¬ (eM d m wv f p r && (true && !U r)) = true ↔ _
            simp
          have nxt : ∀ X, ¬ gcc (eM d m wv f) m1 p U r = true → FRC prF prA S X → (∀ q, q < dNp d → sa X 25 q = alM d m wv f q) → (∀ q, q < p → sa X 26 q = lx (eM d m wv f) (dNp d) 0 (fun _ => false) q) → sa X 26 p = -1 → J g mX3_pair 11 [] 187 [some (.ref 24), some (.ref 3), some (.int (nI (dNp d))), some (.int (nI (dNr d))), some (.int fr), some (.int (nI (mx (eM d m wv f) (m1 + 1) p U))), some (.int (nI p)), some (.int (nI r))] [] (hs X) sz 0 0 Q := by
            intro X hng hf h25 h26 h26p
            refine J_iinc (pc := 187) (v := 1) dX3_pair_187 rfl (by decide) rfl ?_
            rw [nI_1]
            refine J_goto (pc := 190) (tgt := 104) dX3_pair_190 (by decide) ?_
            refine lh (r + 1) X (by omega) (fun j hj => ?_) hf h25 h26 h26p
            by_cases e : j = r
            · subst e; exact hng
            · exact hno j (by omega)
          refine J_iload (pc := 104) dX3_pair_104 rfl ?_
          refine J_iload_n (pc := 106) dX3_pair_106 rfl ?_
          refine J_icmp_ge (pc := 107) (tgt := 193) dX3_pair_107 (by decide) (fun c107 => absurd c107 (nI_ge hrn (by omega))) (fun c107 => ?_)
          refine J_aload_n (pc := 110) dX3_pair_110 rfl ?_
          refine J_getr (pc := 111) dX3_pair_111 kc3 fl_X3_15 rfl ?_
          refine J_iload (pc := 114) dX3_pair_114 rfl ?_
          refine J_il (pc := 116) dX3_pair_116 rfl rfl ⟨hp8, by decide⟩ ?_
          refine J_t1 h26p ?_
          refine J_iconst (pc := 117) (v := -1) dX3_pair_117 (by decide) ?_
          refine J_icmp_ne (pc := 118) (tgt := 193) dX3_pair_118 (by decide) (fun c118 => absurd rfl c118) (fun c118 => ?_)
          refine J_aload_n (pc := 121) dX3_pair_121 rfl ?_
          refine J_getr (pc := 122) dX3_pair_122 kc3 fl_X3_9 rfl ?_
          refine J_iload (pc := 125) dX3_pair_125 rfl ?_
          refine J_il (pc := 127) dX3_pair_127 rfl rfl ⟨hp8, by decide⟩ ?_
          refine J_t1 (h25 p (by omega)) ?_
          refine J_iload (pc := 128) dX3_pair_128 rfl ?_
          refine J_iand (pc := 130) dX3_pair_130 ?_
          refine J_iconst (pc := 131) (v := 1) dX3_pair_131 (by decide) ?_
          refine J_iload (pc := 132) dX3_pair_132 rfl ?_
          refine J_ishl (pc := 134) dX3_pair_134 ?_
          refine J_iand (pc := 135) dX3_pair_135 ?_
          refine J_if_eq (pc := 136) (tgt := 187) dX3_pair_136 (by decide) (fun c136 => ?_) (fun c136 => ?_)
          · exact nxt X (fun hc => hcnd.mp c136 (gcc_i.mp hc).1) hf h25 h26 h26p
          · have hval : eM d m wv f p r = true ∧ ¬ U r = true := Classical.byContradiction (fun z => c136 (hcnd.mpr z))
            have hfr2 : ∀ r', r' < 10 → (decide (r' < dNr d) && !uU U r r') = bt (fr &&& ((1 : Int32) <<< (nI r &&& 31) ^^^ -1)) r' := fun r' hr' => by
              rw [bt_and, bt_xm _ (by omega), bt_1 (by omega), ← hU r' hr']
              show (decide (r' < dNr d) && !(U r' || decide (r' = r))) = _
              rw [Bool.not_or, ← Bool.and_assoc, show decide (r' = r) = decide (r = r') from decide_eq_decide.mpr ⟨Eq.symm, Eq.symm⟩]
            have hmp := r_X3_mostPairs (g := g) (S := X) (fr := (fr &&& ((1 : Int32) <<< (nI r &&& 31) ^^^ -1))) (E := fun a r' => bt (sa X 25 a &&& (fr &&& ((1 : Int32) <<< (nI r &&& 31) ^^^ -1))) r') (fun _ _ _ _ => rfl) (lo := p + 1) (np := dNp d) n3 (by omega)
            have hme : mx (fun a r' => bt (sa X 25 a &&& (fr &&& ((1 : Int32) <<< (nI r &&& 31) ^^^ -1))) r') (dNp d - (p + 1)) (p + 1) (fun _ => false) = mx (eM d m wv f) m1 (p + 1) (uU U r) := by
              rw [show dNp d - (p + 1) = m1 by omega]
              refine mx_cg m1 (p + 1) _ _ (fun a r' h1 h2 h3 => ?_)
              rw [h25 a (by omega), bt_and, ← hfr2 r' h3]
              show (eM d m wv f a r' && (decide (r' < dNr d) && !uU U r r') && !false) = _
              by_cases e : r' < dNr d
              · rw [decide_eq_true e]; simp
              · have : eM d m wv f a r' = false := by
                  cases q : eM d m wv f a r' with
                  | false => rfl
                  | true => exact absurd q (eM_n hv (by omega))
                rw [this]; simp
            rw [hme] at hmp
            have hmr := mx_len (eM d m wv f) m1 (p + 1) (uU U r)
            refine J_iconst (pc := 139) (v := 1) dX3_pair_139 (by decide) ?_
            refine J_aload_n (pc := 140) dX3_pair_140 rfl ?_
            refine J_iload (pc := 141) dX3_pair_141 rfl ?_
            refine J_iconst (pc := 143) (v := 1) dX3_pair_143 (by decide) ?_
            refine J_iadd (pc := 144) dX3_pair_144 ?_
            rw [nI_1]
            refine J_iload_n (pc := 145) dX3_pair_145 rfl ?_
            refine J_iload (pc := 146) dX3_pair_146 rfl ?_
            refine J_iconst (pc := 148) (v := 1) dX3_pair_148 (by decide) ?_
            refine J_iload (pc := 149) dX3_pair_149 rfl ?_
            refine J_ishl (pc := 151) dX3_pair_151 ?_
            refine J_iconst (pc := 152) (v := -1) dX3_pair_152 (by decide) ?_
            refine J_ixor (pc := 153) dX3_pair_153 ?_
            refine J_iand (pc := 154) dX3_pair_154 ?_
            refine J_cvI (pc := 155) (N := mX3_mostPairs) dX3_pair_155 ml_X3_47 cf_X3_mostPairs cv_X3_mostPairs hmp rfl rfl (Nat.le_of_ble_eq_true rfl) (by decide) (rv_of (ci := 3) rfl rfl rfl) ?_
            intro x155 X155 hX155
            obtain ⟨hx155, hf2⟩ := hX155
            subst hx155
            have hf3 : FRC prF prA S X155 := FRC_t hf (FRC_m hf2 (fun x k z => z) (fun x z => by have : x = 27 := of_decide_eq_true z; subst this; rfl))
            have h25b : ∀ q, q < dNp d → sa X155 25 q = alM d m wv f q := fun q hq => by rw [hf2.1.2.2 25 rfl]; exact h25 q hq
            have h26b : ∀ q, q < p → sa X155 26 q = lx (eM d m wv f) (dNp d) 0 (fun _ => false) q := fun q hq => by rw [hf2.1.2.2 26 rfl]; exact h26 q hq
            have h26pb : sa X155 26 p = -1 := by rw [hf2.1.2.2 26 rfl]; exact h26p
            refine J_iadd (pc := 158) dX3_pair_158 ?_
            refine J_t1 (y := nI (1 + mx (eM d m wv f) m1 (p + 1) (uU U r))) (nI_add 1 _) ?_
            refine J_iload (pc := 159) dX3_pair_159 rfl ?_
            refine J_icmp_ne (pc := 161) (tgt := 187) dX3_pair_161 (by decide) (fun c161 => ?_) (fun c161 => ?_)
            · exact nxt X155 (fun hc => c161 (by rw [(gcc_i.mp hc).2])) hf3 h25b h26b h26pb
            · have heq := nI_eq_m (by omega) (by omega) c161
              have hg : gch (eM d m wv f) m1 p U = some r := fsx_s hr10 (gcc_i.mpr ⟨hval, heq⟩) hno
              refine J_aload_n (pc := 164) dX3_pair_164 rfl ?_
              refine J_getr (pc := 165) dX3_pair_165 kc3 fl_X3_15 rfl ?_
              refine J_iload (pc := 168) dX3_pair_168 rfl ?_
              refine J_iload (pc := 170) dX3_pair_170 rfl ?_
              refine J_is (pc := 172) dX3_pair_172 rfl rfl ⟨hp8, by decide⟩ ?_
              refine J_iload (pc := 173) dX3_pair_173 rfl ?_
              refine J_iconst (pc := 175) (v := 1) dX3_pair_175 (by decide) ?_
              refine J_iload (pc := 176) dX3_pair_176 rfl ?_
              refine J_ishl (pc := 178) dX3_pair_178 ?_
              refine J_iconst (pc := 179) (v := -1) dX3_pair_179 (by decide) ?_
              refine J_ixor (pc := 180) dX3_pair_180 ?_
              refine J_iand (pc := 181) dX3_pair_181 ?_
              refine J_istore (pc := 182) dX3_pair_182 (by decide) rfl ?_
              refine J_iinc (pc := 184) (v := -1) dX3_pair_184 rfl (by decide) rfl ?_
              rw [show nI (mx (eM d m wv f) (m1 + 1) p U) + -1 = nI (mx (eM d m wv f) m1 (p + 1) (uU U r)) by rw [← heq, Nat.add_comm 1, ← nI_1, Int32.add_assoc]; exact Int32.add_zero _]
              have hf4 : FRC prF prA S (sA X155 26 p (nI r)) := FRC_A hf3 rfl
              have fin := hnx (sA X155 26 p (nI r)) (fr &&& ((1 : Int32) <<< (nI r &&& 31) ^^^ -1)) (some r) (some (.int (nI (r + 1)))) hg hf4 h25b (fun q hq => (sa_n (by omega)).trans (h26b q hq)) (sa_e _ _ _ _) hfr2
              refine J_iinc (pc := 187) (v := 1) dX3_pair_187 rfl (by decide) rfl ?_
              rw [nI_1]
              refine J_goto (pc := 190) (tgt := 104) dX3_pair_190 (by decide) ?_
              refine J_iload (pc := 104) dX3_pair_104 rfl ?_
              refine J_iload_n (pc := 106) dX3_pair_106 rfl ?_
              refine J_icmp_ge (pc := 107) (tgt := 193) dX3_pair_107 (by decide) (fun c107 => ?_) (fun c107 => ?_)
              · exact fin
              · refine J_aload_n (pc := 110) dX3_pair_110 rfl ?_
                refine J_getr (pc := 111) dX3_pair_111 kc3 fl_X3_15 rfl ?_
                refine J_iload (pc := 114) dX3_pair_114 rfl ?_
                refine J_il (pc := 116) dX3_pair_116 rfl rfl ⟨hp8, by decide⟩ ?_
                refine J_t1 (sa_e _ _ _ _) ?_
                refine J_iconst (pc := 117) (v := -1) dX3_pair_117 (by decide) ?_
                refine J_icmp_ne (pc := 118) (tgt := 193) dX3_pair_118 (by decide) (fun c118 => ?_) (fun c118 => absurd c118 (nI_nm (k := r) (by omega)))
                exact fin
      refine J_iload (pc := 87) dX3_pair_87 rfl ?_
      refine J_iload_n (pc := 89) dX3_pair_89 rfl ?_
      refine J_icmp_ge (pc := 90) (tgt := 199) dX3_pair_90 (by decide) (fun c90 => absurd c90 (nI_ge (by omega) (by omega))) (fun c90 => ?_)
      refine J_aload_n (pc := 93) dX3_pair_93 rfl ?_
      refine J_getr (pc := 94) dX3_pair_94 kc3 fl_X3_15 rfl ?_
      refine J_iload (pc := 97) dX3_pair_97 rfl ?_
      refine J_iconst (pc := 99) (v := -1) dX3_pair_99 (by decide) ?_
      refine J_is (pc := 100) dX3_pair_100 rfl rfl ⟨hp8, by decide⟩ ?_
      refine J_iconst (pc := 101) (v := 0) dX3_pair_101 (by decide) ?_
      refine J_istore (pc := 102) dX3_pair_102 (by decide) rfl ?_
      exact inn (dNr d) 0 _ (Nat.zero_add _) (fun j hj => absurd hj (Nat.not_lt_zero j)) (FRC_A hf rfl) h25 (fun q hq => (sa_n (by omega)).trans (h26 q hq)) (sa_e _ _ _ _)
  have abl : ∀ m0 p X (l5 l6 l7 : Option Value), p + m0 = dNp d → FRC prF prA S X → (∀ q, q < p → sa X 25 q = alM d m wv f q) → J g mX3_pair 11 [] 19 [some (.ref 24), some (.ref 3), some (.int (nI (dNp d))), some (.int (nI (dNr d))), some (.int (nI p)), l5, l6, l7] [] (hs X) sz 0 0 Q := by
    intro m0
    induction m0 with
    | zero =>
      intro p X l5 l6 l7 hm hf h25
      have hp : p = dNp d := by omega
      subst hp
      have hU0 : ∀ r, r < 10 → (decide (r < dNr d) && !(fun _ : Nat => false) r) = bt (msk (fun _ => true) (dNr d)) r := fun r hr => by
        rw [bt_msk _ _ (by omega)]; rfl
      have hmp := r_X3_mostPairs (g := g) (S := X) (fr := msk (fun _ => true) (dNr d)) (E := fun a r' => bt (sa X 25 a &&& msk (fun _ => true) (dNr d)) r') (fun _ _ _ _ => rfl) (lo := 0) (np := dNp d) n3 (Nat.zero_le _)
      have hme : mx (fun a r' => bt (sa X 25 a &&& msk (fun _ => true) (dNr d)) r') (dNp d - 0) 0 (fun _ => false) = mx (eM d m wv f) (dNp d) 0 (fun _ => false) := by
        rw [Nat.sub_zero]
        refine mx_cg (dNp d) 0 _ _ (fun a r' h1 h2 h3 => ?_)
        rw [h25 a (by omega), bt_and, ← hU0 r' h3]
        show (eM d m wv f a r' && (decide (r' < dNr d) && !false) && !false) = (eM d m wv f a r' && !false)
        by_cases e : r' < dNr d
        · rw [decide_eq_true e]; simp
        · have : eM d m wv f a r' = false := by
            cases q : eM d m wv f a r' with
            | false => rfl
            | true => exact absurd q (eM_n hv (by omega))
          rw [this]; simp
      rw [hme] at hmp
      refine J_iload (pc := 19) dX3_pair_19 rfl ?_
      refine J_iload_n (pc := 21) dX3_pair_21 rfl ?_
      refine J_icmp_ge (pc := 22) (tgt := 67) dX3_pair_22 (by decide) (fun c22 => ?_) (fun c22 => absurd (Int32.le_refl _) c22)
      refine J_iconst (pc := 67) (v := 1) dX3_pair_67 (by decide) ?_
      refine J_iload_n (pc := 68) dX3_pair_68 rfl ?_
      refine J_ishl (pc := 69) dX3_pair_69 ?_
      refine J_iconst (pc := 70) (v := 1) dX3_pair_70 (by decide) ?_
      refine J_isub (pc := 71) dX3_pair_71 ?_
      refine J_t1 (msk_s10 _ n2) ?_
      refine J_istore (pc := 72) dX3_pair_72 (by decide) rfl ?_
      refine J_aload_n (pc := 74) dX3_pair_74 rfl ?_
      refine J_iconst (pc := 75) (v := 0) dX3_pair_75 (by decide) ?_
      refine J_iload_n (pc := 76) dX3_pair_76 rfl ?_
      refine J_iload (pc := 77) dX3_pair_77 rfl ?_
      refine J_cvI (pc := 79) (N := mX3_mostPairs) dX3_pair_79 ml_X3_47 cf_X3_mostPairs cv_X3_mostPairs hmp rfl rfl (Nat.le_of_ble_eq_true rfl) (by decide) (rv_of (ci := 3) rfl rfl rfl) ?_
      intro x79 X79 hX79
      obtain ⟨hx79, hf2⟩ := hX79
      subst hx79
      refine J_istore (pc := 82) dX3_pair_82 (by decide) rfl ?_
      refine J_iconst (pc := 84) (v := 0) dX3_pair_84 (by decide) ?_
      refine J_istore (pc := 85) dX3_pair_85 (by decide) rfl ?_
      exact out (dNp d) 0 X79 (fun _ => false) _ _ (Nat.zero_add _) (FRC_t hf (FRC_m hf2 (fun x k z => z) (fun x z => by have : x = 27 := of_decide_eq_true z; subst this; rfl))) (fun q hq => by rw [hf2.1.2.2 25 rfl]; exact h25 q hq) (fun q hq => absurd hq (Nat.not_lt_zero q)) (fun _ _ => rfl) hU0
    | succ m0 ih =>
      intro p X l5 l6 l7 hm hf h25
      have hpn : p < dNp d := by omega
      have hXX := CX_pr hX hf
      have e4 : sa X 16 4 = msk (fun r => decide (f (26 + r) = 1)) (dNr d) := hXX.2.2.2.2.2.2.2.2.2.2.2.2.2.1
      have fin : ∀ T x, x = alM d m wv f p → J g mX3_pair 11 [] 60 [some (.ref 24), some (.ref 3), some (.int (nI (dNp d))), some (.int (nI (dNr d))), some (.int (nI p)), l5, l6, l7] [.int x, .int (nI p), .ref 25] (hs (w1 X T)) sz 0 0 Q := by
        intro T x hx
        refine J_is (pc := 60) dX3_pair_60 rfl rfl ⟨by omega, by decide⟩ ?_
        refine J_iinc (pc := 61) (v := 1) dX3_pair_61 rfl (by decide) rfl ?_
        rw [nI_1]
        refine J_goto (pc := 64) (tgt := 19) dX3_pair_64 (by decide) ?_
        refine ih (p + 1) _ l5 l6 l7 (by omega) (FRC_A (X := w1 X T) hf rfl) (fun q hq => ?_)
        by_cases e : q = p
        · subst e; rw [sa_e]; exact hx
        · rw [sa_n e]; exact h25 q (by omega)
      refine J_iload (pc := 19) dX3_pair_19 rfl ?_
      refine J_iload_n (pc := 21) dX3_pair_21 rfl ?_
      refine J_icmp_ge (pc := 22) (tgt := 67) dX3_pair_22 (by decide) (fun c22 => absurd c22 (nI_ge hpn (by omega))) (fun c22 => ?_)
      refine J_aload_n (pc := 25) dX3_pair_25 rfl ?_
      refine J_getr (pc := 26) dX3_pair_26 kc3 fl_X3_9 rfl ?_
      refine J_iload (pc := 29) dX3_pair_29 rfl ?_
      refine J_aload_n (pc := 31) dX3_pair_31 rfl ?_
      refine J_iload (pc := 32) dX3_pair_32 rfl ?_
      refine J_cnr (pc := 34) (N := mX0_isCured) dX3_pair_34 ml_X3_36 cf_X0_isCured cv_X0_isCured (r_X0_isCured hXX hpn) rfl rfl (Nat.le_of_ble_eq_true rfl) (by decide) (rv_of (ci := 0) (by first | exact cvn_n (by assumption) | rfl) rfl rfl) ?_
      refine J_ifp_eq (pc := 37) (tgt := 44) dX3_pair_37 (by decide) (fun c37 => ?_) (fun c37 => ?_)
      · have hcu : f (36 + p) = -1 := Classical.byContradiction c37
        refine J_cg2 (S' := w1 X X) rfl ?_
        refine J_aload_n (pc := 44) dX3_pair_44 rfl ?_
        refine J_iload (pc := 45) dX3_pair_45 rfl ?_
        refine J_iconst (pc := 47) (v := 0) dX3_pair_47 (by decide) ?_
        refine J_cnw (pc := 48) (N := mX0_relicsThatCan) dX3_pair_48 ml_X3_40 cf_X0_relicsThatCan cv_X0_relicsThatCan (r_X0_relicsThatCan hXX hpn) rfl rfl (Nat.le_of_ble_eq_true rfl) (by decide) (rv_of (ci := 0) (by first | exact cvn_n (by assumption) | rfl) rfl rfl) ?_
        intro T
        refine J_aload_n (pc := 51) dX3_pair_51 rfl ?_
        refine J_getrN (pc := 52) dX3_pair_52 kc0 fl_X3_44 (by first | exact cvn_r0 (by assumption) | rfl) ?_
        refine J_iconst (pc := 55) (v := 4) dX3_pair_55 (by decide) ?_
        refine J_il (pc := 56) dX3_pair_56 rfl (rfl : (4 : Int32) = nI 4) ⟨by decide, by decide⟩ ?_
        refine J_t1 e4 ?_
        refine J_iconst (pc := 57) (v := -1) dX3_pair_57 (by decide) ?_
        refine J_ixor (pc := 58) dX3_pair_58 ?_
        refine J_iand (pc := 59) dX3_pair_59 ?_
        refine J_t1 (al_n hv hRC.2.2.2.2.2.2.2.2.2 hcu) ?_
        first
          | exact fin _ _ (al_c c37).symm
          | exact fin _ _ rfl
      · refine J_iconst (pc := 40) (v := 0) dX3_pair_40 (by decide) ?_
        refine J_goto (pc := 41) (tgt := 60) dX3_pair_41 (by decide) ?_
        first
          | exact fin _ _ (al_c c37).symm
          | exact fin _ _ rfl
  refine J_aload_n (pc := 0) dX3_pair_0 rfl ?_
  refine J_getpN (pc := 1) dX3_pair_1 kc0 fl_X3_21 (by first | exact cvn_p2 (by assumption) | rfl) ?_
  refine J_tr hp2 ?_
  refine J_getiN (pc := 4) dX3_pair_4 kc1 fl_X3_27 (by first | exact hou_i10 (by assumption) | rfl) ?_
  refine J_t1 hHC.2.2.1 ?_
  refine J_istore_n (pc := 7) dX3_pair_7 (by decide) rfl ?_
  refine J_aload_n (pc := 8) dX3_pair_8 rfl ?_
  refine J_getpN (pc := 9) dX3_pair_9 kc0 fl_X3_21 (by first | exact cvn_p2 (by assumption) | rfl) ?_
  refine J_tr hp2 ?_
  refine J_getiN (pc := 12) dX3_pair_12 kc1 fl_X3_33 (by first | exact hou_i9 (by assumption) | rfl) ?_
  refine J_t1 hHC.2.1 ?_
  refine J_istore_n (pc := 15) dX3_pair_15 (by decide) rfl ?_
  refine J_iconst (pc := 16) (v := 0) dX3_pair_16 (by decide) ?_
  refine J_istore (pc := 17) dX3_pair_17 (by decide) rfl ?_
  exact abl (dNp d) 0 S _ _ _ (Nat.zero_add _) (FRC_r _ _ _) (fun q hq => absurd hq (Nat.not_lt_zero q))

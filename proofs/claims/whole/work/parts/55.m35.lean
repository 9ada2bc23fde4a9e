/-! ===== the model's seen ===== -/
abbrev nF : Nat → Nat → Bool := fun _ _ => false
def rlA (a : Nat) : Bool := 442 ≤ a && a < 452
def snF (a k : Nat) : Bool := pfF a k || (a == 59 && k == 35)
def snA (a : Nat) : Bool := pfA a || (431 ≤ a && a < 441)
theorem imp_f {F F' : Nat → Bool} (h : ∀ a, F a = true → F' a = true) : ∀ a, F' a = false → F a = false := fun a q => by
  cases e : F a
  · rfl
  · rw [h a e] at q; cases q
theorem rlA_i {a : Nat} (h : rlA a = true) : ∃ i, i < 10 ∧ a = 442 + i := by
  unfold rlA at h
  rw [Bool.and_eq_true, decide_eq_true_iff, decide_eq_true_iff] at h
  exact ⟨a - 442, by omega, by omega⟩
theorem rlA_10 : ∀ i, i < 10 → rlA (442 + i) = true := by decide
theorem rlA_pf : ∀ a, rlA a = true → pfA a = true := fun a h => by
  obtain ⟨i, hi, rfl⟩ := rlA_i h
  have : ∀ i, i < 10 → pfA (442 + i) = true := by decide
  exact this i hi
theorem FRL_TX {A : Nat → Bool} {S Y : Sx} (h : FRL nF A S Y) (hA : A 60 = false) {n : Nat} {cc : Nat → Nat} (hx : TX S n cc) : TX Y n cc := ⟨by rw [h.1.1 59 2 rfl]; exact hx.1, hx.2.1, fun k hk => by rw [h.1.2.2 60 hA]; exact hx.2.2.1 k hk, hx.2.2.2⟩
theorem ly_o' {S : Sx} {a0 b0 w k b : Nat} (h : b < b0 ∨ b0 + k ≤ b) : sa (lyS S a0 b0 w k 0) b = sa S b := by
  funext j
  show lyA (sa S) a0 b0 w k 0 b j = _
  unfold lyA
  rw [if_neg (by omega)]
theorem ly_v {S : Sx} {a0 b0 w k i j : Nat} (hi : i < k) (hj : j < w) : sa (lyS S a0 b0 w k 0) (b0 + i) j = sa S (a0 + i) j := by
  show lyA (sa S) a0 b0 w k 0 (b0 + i) j = _
  unfold lyA
  rw [if_pos (by omega), show b0 + i - b0 = i by omega]
abbrev SNS : Type := PT × List (Nat × Nat)
def bnm (l : List (Nat × Nat)) : Int32 := l.foldl (fun b q => b ||| 1 <<< (nI q.1 &&& 31)) 0
theorem bnm_app (l : List (Nat × Nat)) (x : Nat × Nat) : bnm (l ++ [x]) = bnm l ||| 1 <<< (nI x.1 &&& 31) := by
  unfold bnm
  rw [List.foldl_append]
  rfl
theorem bnm_bt (k : Nat) : ∀ (l : List (Nat × Nat)) (b : Int32), (∀ q, q ∈ l → q.1 < 32) → bt (l.foldl (fun b q => b ||| 1 <<< (nI q.1 &&& 31)) b) k = (bt b k || l.any (fun q => q.1 == k))
  | [], b, _ => by simp
  | q :: l, b, h => by
    rw [List.foldl_cons, bnm_bt k l _ (fun q hq => h q (List.mem_cons_of_mem _ hq)), bt_or, bt_1 (h q List.mem_cons_self), List.any_cons, Bool.or_assoc]
    congr 1
/-- a line of what was seen -/
def snC (cc : Nat → Nat) (n nr : Nat) (s : SNS) : SNS :=
  let a := pnum cc n 0 nr s.1
  let t1 := if a.2.2.1 = 0 ∧ s.2.any (fun q => q.1 == a.1) = true then (a.2.1, 2, s.1.1) else a.2
  let b := pnum cc n 0 100 t1
  let t3 := psg cc n 59 b.2
  (t3, if t3.2.1 = 0 then s.2 ++ [(a.1, b.1)] else s.2)
def snl (cc : Nat → Nat) (n nr : Nat) : Nat → SNS → Option SNS
  | 0, _ => none
  | f + 1, s => if s.1.2.1 = 0 ∧ s.1.1 < n then snl cc n nr f ((pbl cc n (snC cc n nr s).1.1, (snC cc n nr s).1.2), (snC cc n nr s).2) else some s
def SL (Y : Sx) (b : Nat) (l : List (Nat × Nat)) : Prop := ∀ i, i < l.length → sa Y (b + i) 0 = nI (l.getD i (0, 0)).1 ∧ sa Y (b + i) 1 = nI (l.getD i (0, 0)).2
def SV (nr : Nat) (l : List (Nat × Nat)) : Prop := (l.map Prod.fst).Nodup ∧ ∀ q, q ∈ l → q.1 < nr ∧ q.2 < 100
theorem SV_len {nr : Nat} {l : List (Nat × Nat)} (h : SV nr l) : l.length ≤ nr := by
  have := nd_len nr (l.map Prod.fst) h.1 (fun x hx => by
    obtain ⟨q, hq, rfl⟩ := List.mem_map.mp hx
    exact (h.2 q hq).1)
  rwa [List.length_map] at this
theorem SV_app {nr : Nat} {l : List (Nat × Nat)} (h : SV nr l) {r v : Nat} (hr : r < nr) (hv : v < 100) (hn : ¬ l.any (fun q => q.1 == r) = true) : SV nr (l ++ [(r, v)]) := by
  refine ⟨?_, fun q hq => ?_⟩
  · rw [List.map_append, List.nodup_append]
    refine ⟨h.1, ?_, ?_⟩
    · exact List.nodup_cons.mpr ⟨List.not_mem_nil, List.nodup_nil⟩
    · intro a ha b hb e
      obtain ⟨q, hq, rfl⟩ := List.mem_map.mp ha
      rw [show List.map Prod.fst [(r, v)] = [r] from rfl, List.mem_singleton] at hb
      exact hn (List.any_eq_true.mpr ⟨q, hq, by rw [e, hb]; exact beq_self_eq_true r⟩)
  · rcases List.mem_append.mp hq with hq | hq
    · exact h.2 q hq
    · rw [List.mem_singleton] at hq
      subst hq
      exact ⟨hr, hv⟩
theorem SL_app {Y : Sx} {b : Nat} {l : List (Nat × Nat)} (h : SL Y b l) (r v : Nat) : SL (sA (sA Y (b + l.length) 0 (nI r)) (b + l.length) 1 (nI v)) b (l ++ [(r, v)]) := by
  intro i hi
  rw [len1] at hi
  by_cases e : i = l.length
  · subst e
    rw [getD_e, sa_n (by decide), sa_e, sa_e]
    exact ⟨rfl, rfl⟩
  · rw [getD_l (by omega), sa_o (by omega), sa_o (by omega), sa_o (by omega), sa_o (by omega)]
    exact h i (by omega)
theorem PO_snC {S : Sx} {n : Nat} {cc : Nat → Nat} (hx : TX S n cc) {s : SNS} (h : PO n s.1) (nr : Nat) : PO n (snC cc n nr s).1 := by
  have h1 := PO_num hx h 0 nr
  have h2 : PO n (if (pnum cc n 0 nr s.1).2.2.1 = 0 ∧ s.2.any (fun q => q.1 == (pnum cc n 0 nr s.1).1) = true then ((pnum cc n 0 nr s.1).2.1, 2, s.1.1) else (pnum cc n 0 nr s.1).2) := by
    split
    · exact ⟨h1.1, by show 2 ≤ 3; omega, h.1⟩
    · exact h1
  exact PO_sg hx (PO_num hx h2 0 100) (by decide)
theorem seen_loop {g : Gp} {n nr : Nat} {cc : Nat → Nat} {B : Sx} {sz : Nat} {Q : Po} (hx : TX B n cc) (hnr : sa B 63 1 = nI nr) (h10 : nr ≤ 10) : ∀ f Y (s0 s : SNS) (l4 l5 l6 : Option Value), PO n s0.1 → SV nr s0.2 → FRL nF rlA B Y → SL Y 442 s0.2 → snl cc n nr f s0 = some s → (∀ Y' (b : Int32) (k4 k5 k6 : Option Value), PO n s.1 → ¬ (s.1.2.1 = 0 ∧ s.1.1 < n) → FRL nF rlA B Y' → SL Y' 442 s.2 → SV nr s.2 → J g mX11_seen 8 [] 169 [some (.ref 59), some (.int (nI n)), some (.int (nI s.2.length)), some (.int b), k4, k5, k6] [] (hs (ps Y' s.1)) sz 0 0 Q) → J g mX11_seen 8 [] 48 [some (.ref 59), some (.int (nI n)), some (.int (nI s0.2.length)), some (.int (bnm s0.2)), l4, l5, l6] [] (hs (ps Y s0.1)) sz 0 0 Q := by
  intro f
  induction f with
  | zero => intro Y s0 s l4 l5 l6 _ _ _ _ h; cases h
  | succ f ih =>
    intro Y s0 s l4 l5 l6 hp hI hO hL h hq
    have h : (if s0.1.2.1 = 0 ∧ s0.1.1 < n then snl cc n nr f ((pbl cc n (snC cc n nr s0).1.1, (snC cc n nr s0).1.2), (snC cc n nr s0).2) else some s0) = some s := h
    have hxy := FRL_TX hO rfl hx
    have hn6 := hxy.2.1
    have h63 : sa Y 63 1 = nI nr := by rw [hO.1.2.2 63 rfl]; exact hnr
    by_cases q1 : s0.1.2.1 = 0
    · by_cases q2 : s0.1.1 < n
      · rw [if_pos ⟨q1, q2⟩] at h
        have pC := PO_snC hx (s := s0) hp nr
        have hC : snC cc n nr s0 = snC cc n nr s0 := rfl
        conv at hC => rhs; unfold snC
        obtain ⟨a, ha⟩ : ∃ a, a = pnum cc n 0 nr s0.1 := ⟨_, rfl⟩
        have pa : PO n a.2 := by rw [ha]; exact PO_num hx hp 0 nr
        have va : a.2.2.1 = 0 → a.1 < nr := by rw [ha]; exact fun z => (pnum_ok (hx.2.2.2 n (Nat.le_refl n)) hp.1 z).2.2.2.2
        rw [← ha] at hC
        obtain ⟨t1, ht1⟩ : ∃ t, t = (if a.2.2.1 = 0 ∧ s0.2.any (fun q => q.1 == a.1) = true then ((a.2.1, 2, s0.1.1) : PT) else a.2) := ⟨_, rfl⟩
        have p1 : PO n t1 := by
          rw [ht1]
          split
          · exact ⟨pa.1, by show 2 ≤ 3; omega, hp.1⟩
          · exact pa
        have e1 : t1.2.1 = 0 → a.2.2.1 = 0 ∧ ¬ s0.2.any (fun q => q.1 == a.1) = true := by
          rw [ht1]
          split
          · intro z; exact absurd z (by show ¬ 2 = 0; omega)
          · next z => exact fun y => ⟨y, fun u => z ⟨y, u⟩⟩
        simp only [← ht1] at hC
        obtain ⟨b, hb⟩ : ∃ b, b = pnum cc n 0 100 t1 := ⟨_, rfl⟩
        have pb : PO n b.2 := by rw [hb]; exact PO_num hx p1 0 100
        have vb : b.2.2.1 = 0 → t1.2.1 = 0 ∧ b.1 < 100 := by rw [hb]; exact fun z => ⟨(pnum_ok (hx.2.2.2 n (Nat.le_refl n)) p1.1 z).1, (pnum_ok (hx.2.2.2 n (Nat.le_refl n)) p1.1 z).2.2.2.2⟩
        simp only [← hb] at hC
        obtain ⟨t3, ht3⟩ : ∃ t, t = psg cc n 59 b.2 := ⟨_, rfl⟩
        have p3 : PO n t3 := by rw [ht3]; exact PO_sg hx pb (by decide)
        have v3 : t3.2.1 = 0 → b.2.2.1 = 0 := by rw [ht3]; exact fun z => (psg_ok z).1
        simp only [← ht3] at hC
        rw [hC] at h pC
        have tail2 : ∀ Y' (l' : List (Nat × Nat)) (x y : Int32) (k4 k5 k6 : Option Value), l' = (if t3.2.1 = 0 then s0.2 ++ [(a.1, b.1)] else s0.2) → x = nI l'.length → y = bnm l' → FRL nF rlA B Y' → SL Y' 442 l' → SV nr l' → J g mX11_seen 8 [] 162 [some (.ref 59), some (.int (nI n)), some (.int x), some (.int y), k4, k5, k6] [] (hs (ps Y' t3)) sz 0 0 Q := by
          intro Y' l' x y k4 k5 k6 el ex ey hO' hL' hI'
          subst ex
          subst ey
          subst el
          refine J_aload_n (pc := 162) dX11_seen_162 rfl ?_
          refine J_cvv (pc := 163) (N := mX11_blanks) dX11_seen_163 ml_X11_125 cf_X11_blanks cv_X11_blanks (r_X11_blanks (S := Y') (t := t3) (FRL_TX hO' rfl hx) p3.1) rfl rfl (Nat.le_of_ble_eq_true rfl) (by decide) (rv_of (ci := 11) rfl rfl rfl) ?_
          refine J_goto (pc := 166) (tgt := 48) dX11_seen_166 (by decide) ?_
          exact ih Y' ((pbl cc n t3.1, t3.2), if t3.2.1 = 0 then s0.2 ++ [(a.1, b.1)] else s0.2) s k4 k5 k6 ⟨pbl_le cc p3.1, p3.2⟩ hI' hO' hL' h hq
        have tail : ∀ t, t = t1 → ∀ k6, J g mX11_seen 8 [] 110 [some (.ref 59), some (.int (nI n)), some (.int (nI s0.2.length)), some (.int (bnm s0.2)), some (.int (nI s0.1.1)), some (.int (nI a.1)), k6] [] (hs (ps Y t)) sz 0 0 Q := by
          intro t et k6
          subst et
          clear ih
          refine J_aload_n (pc := 110) dX11_seen_110 rfl ?_
          refine J_iconst (pc := 111) (v := 0) dX11_seen_111 (by decide) ?_
          refine J_bipush (pc := 112) (v := 99) dX11_seen_112 (by decide) ?_
          refine J_cvr (pc := 114) (N := mX11_number) dX11_seen_114 ml_X11_175 cf_X11_number cv_X11_number (r_X11_number (S := Y) (lo := 0) (hi := 100) (t := t) hxy p1 rfl (by decide) (by decide) (by decide)) rfl rfl (Nat.le_of_ble_eq_true rfl) (by decide) (rv_of (ci := 11) rfl rfl rfl) ?_
          rw [← hb]
          refine J_istore (pc := 117) dX11_seen_117 (by decide) rfl ?_
          refine J_aload_n (pc := 119) dX11_seen_119 rfl ?_
          refine J_bipush (pc := 120) (v := 59) dX11_seen_120 (by decide) ?_
          refine J_cvv (pc := 122) (N := mX11_sign) dX11_seen_122 ml_X11_179 cf_X11_sign cv_X11_sign (r_X11_sign (S := Y) (c := 59) (t := b.2) hxy pb (by decide)) rfl rfl (Nat.le_of_ble_eq_true rfl) (by decide) (rv_of (ci := 11) rfl rfl rfl) ?_
          rw [← ht3]
          refine J_aload_n (pc := 125) dX11_seen_125 rfl ?_
          refine J_geti (pc := 126) dX11_seen_126 kc11 fl_X11_119 rfl ?_
          refine J_t1 (y := nI t3.2.1) rfl ?_
          refine J_if_ne (pc := 129) (tgt := 162) dX11_seen_129 (by decide) (fun c129 => ?_) (fun c129 => ?_)
          · exact tail2 Y s0.2 _ _ _ _ _ (by rw [if_neg (fun z => c129 (by rw [z]; rfl))]) rfl rfl hO hL hI
          · have z3 : t3.2.1 = 0 := (nI_z p3.2.1).mp c129
            have zb := vb (v3 z3)
            have z1 := e1 zb.1
            have hI2 := SV_app hI (va z1.1) zb.2 z1.2
            have hlen := SV_len hI2
            rw [len1] at hlen
            refine J_iload_n (pc := 132) dX11_seen_132 rfl ?_
            refine J_iconst (pc := 133) (v := 1) dX11_seen_133 (by decide) ?_
            refine J_iload (pc := 134) dX11_seen_134 rfl ?_
            refine J_ishl (pc := 136) dX11_seen_136 ?_
            refine J_ior (pc := 137) dX11_seen_137 ?_
            refine J_t1 (y := bnm (s0.2 ++ [(a.1, b.1)])) (bnm_app s0.2 (a.1, b.1)).symm ?_
            refine J_istore_n (pc := 138) dX11_seen_138 (by decide) rfl ?_
            refine J_aload_n (pc := 139) dX11_seen_139 rfl ?_
            refine J_getr (pc := 140) dX11_seen_140 kc11 fl_X11_61 rfl ?_
            refine J_iload_n (pc := 143) dX11_seen_143 rfl ?_
            refine J_ar1 (pc := 144) dX11_seen_144 rfl rfl ⟨by omega, by decide⟩ ?_
            refine J_iconst (pc := 145) (v := 0) dX11_seen_145 (by decide) ?_
            refine J_iload (pc := 146) dX11_seen_146 rfl ?_
            refine J_is (pc := 148) dX11_seen_148 (lay_readLine (by omega)) (rfl : (0 : Int32) = nI 0) ⟨by first | decide | omega, by decide⟩ ?_
            refine J_aload_n (pc := 149) dX11_seen_149 rfl ?_
            refine J_getr (pc := 150) dX11_seen_150 kc11 fl_X11_61 rfl ?_
            refine J_iload_n (pc := 153) dX11_seen_153 rfl ?_
            refine J_ar1 (pc := 154) dX11_seen_154 rfl rfl ⟨by omega, by decide⟩ ?_
            refine J_iconst (pc := 155) (v := 1) dX11_seen_155 (by decide) ?_
            refine J_iload (pc := 156) dX11_seen_156 rfl ?_
            refine J_is (pc := 158) dX11_seen_158 (lay_readLine (by omega)) (rfl : (1 : Int32) = nI 1) ⟨by first | decide | omega, by decide⟩ ?_
            refine J_iinc (pc := 159) (v := 1) dX11_seen_159 rfl (by decide) rfl ?_
            exact tail2 (sA (sA Y (442 + s0.2.length) 0 (nI a.1)) (442 + s0.2.length) 1 (nI b.1)) (s0.2 ++ [(a.1, b.1)]) _ _ _ _ _ (by rw [if_pos z3]) (by rw [len1, nI_1]) rfl (FRL_A (FRL_A hO (rlA_10 _ (by omega))) (rlA_10 _ (by omega))) (SL_app hL a.1 b.1) hI2
        have a32 : a.1 < 32 ∨ a.2.2.1 ≠ 0 := by
          by_cases z : a.2.2.1 = 0
          · have := va z; omega
          · exact Or.inr z
        have hbn : bt (bnm s0.2) a.1 = s0.2.any (fun q => q.1 == a.1) := by
          unfold bnm
          rw [bnm_bt a.1 s0.2 0 (fun q hq => by have := (hI.2 q hq).1; omega), bt_0, Bool.false_or]
        refine J_aload_n (pc := 48) dX11_seen_48 rfl ?_
        refine J_geti (pc := 49) dX11_seen_49 kc11 fl_X11_119 rfl ?_
        refine J_if_ne (pc := 52) (tgt := 169) dX11_seen_52 (by decide) (fun c52 => absurd (show nI s0.1.2.1 = 0 by rw [q1]; rfl) c52) (fun c52 => ?_)
        refine J_aload_n (pc := 55) dX11_seen_55 rfl ?_
        refine J_geti (pc := 56) dX11_seen_56 kc11 fl_X11_112 rfl ?_
        refine J_aload_n (pc := 59) dX11_seen_59 rfl ?_
        refine J_geti (pc := 60) dX11_seen_60 kc11 fl_X11_109 rfl ?_
        refine J_t1 (y := nI n) hxy.1 ?_
        refine J_icmp_ge (pc := 63) (tgt := 169) dX11_seen_63 (by decide) (fun c63 => absurd c63 (show ¬ nI n ≤ nI s0.1.1 from nI_ge q2 (by omega))) (fun c63 => ?_)
        refine J_aload_n (pc := 66) dX11_seen_66 rfl ?_
        refine J_geti (pc := 67) dX11_seen_67 kc11 fl_X11_112 rfl ?_
        refine J_t1 (y := nI s0.1.1) rfl ?_
        refine J_istore (pc := 70) dX11_seen_70 (by decide) rfl ?_
        refine J_aload_n (pc := 72) dX11_seen_72 rfl ?_
        refine J_iconst (pc := 73) (v := 0) dX11_seen_73 (by decide) ?_
        refine J_aload_n (pc := 74) dX11_seen_74 rfl ?_
        refine J_getr (pc := 75) dX11_seen_75 kc11 fl_X11_23 rfl ?_
        refine J_iconst (pc := 78) (v := 1) dX11_seen_78 (by decide) ?_
        refine J_il (pc := 79) dX11_seen_79 (by first | rfl | assumption) (rfl : (1 : Int32) = nI 1) ⟨by first | decide | omega, by decide⟩ ?_
        refine J_t1 (y := nI nr) h63 ?_
        refine J_iconst (pc := 80) (v := 1) dX11_seen_80 (by decide) ?_
        refine J_isub (pc := 81) dX11_seen_81 ?_
        refine J_cvr (pc := 82) (N := mX11_number) dX11_seen_82 ml_X11_175 cf_X11_number cv_X11_number (r_X11_number (S := Y) (lo := 0) (hi := nr) (t := s0.1) hxy hp rfl rfl (by decide) (by omega)) rfl rfl (Nat.le_of_ble_eq_true rfl) (by decide) (rv_of (ci := 11) rfl rfl rfl) ?_
        rw [← ha]
        refine J_istore (pc := 85) dX11_seen_85 (by decide) rfl ?_
        refine J_aload_n (pc := 87) dX11_seen_87 rfl ?_
        refine J_geti (pc := 88) dX11_seen_88 kc11 fl_X11_119 rfl ?_
        refine J_t1 (y := nI a.2.2.1) rfl ?_
        refine J_if_ne (pc := 91) (tgt := 110) dX11_seen_91 (by decide) (fun c91 => ?_) (fun c91 => ?_)
        · exact tail a.2 (by rw [ht1, if_neg (fun z => c91 (by rw [z.1]; rfl))]) _
        · have z5 : a.2.2.1 = 0 := (nI_z pa.2.1).mp c91
          have a3 : a.1 < 32 := by have := va z5; omega
          refine J_iload_n (pc := 94) dX11_seen_94 rfl ?_
          refine J_iload (pc := 95) dX11_seen_95 rfl ?_
          refine J_csr (pc := 97) (N := mX11_has) dX11_seen_97 ml_X11_263 cf_X11_has cs_X11_has (r_X11_has (b := bnm s0.2) (k := nI a.1)) rfl rfl (Nat.le_of_ble_eq_true rfl) (by decide) ?_
          refine J_ifp_eq (pc := 100) (tgt := 110) dX11_seen_100 (by decide) (fun c100 => ?_) (fun c100 => ?_)
          · exact tail a.2 (by rw [ht1, if_neg (fun z => c100 (by rw [bt_t _ a3, hbn, z.2]; rfl))]) _
          · have hany : s0.2.any (fun q => q.1 == a.1) = true := by
              rw [bt_t _ a3, hbn] at c100
              cases z : s0.2.any (fun q => q.1 == a.1)
              · rw [z] at c100; exact absurd c100 (by decide)
              · rfl
            refine J_aload_n (pc := 103) dX11_seen_103 rfl ?_
            refine J_iconst (pc := 104) (v := 2) dX11_seen_104 (by decide) ?_
            refine J_iload (pc := 105) dX11_seen_105 rfl ?_
            refine J_cvv (pc := 107) (N := mX11_wrong) dX11_seen_107 ml_X11_132 cf_X11_wrong cv_X11_wrong (r_wr (S := Y) (t := a.2) (k := 2) (h := s0.1.1) pa.2.1 (by decide)) rfl rfl (Nat.le_of_ble_eq_true rfl) (by decide) (rv_of (ci := 11) rfl rfl rfl) ?_
            exact tail (pwr 2 s0.1.1 a.2) (by unfold pwr; rw [ht1, if_pos z5, if_pos ⟨z5, hany⟩]) _
      · rw [if_neg (fun z => q2 z.2)] at h
        cases h
        refine J_aload_n (pc := 48) dX11_seen_48 rfl ?_
        refine J_geti (pc := 49) dX11_seen_49 kc11 fl_X11_119 rfl ?_
        refine J_if_ne (pc := 52) (tgt := 169) dX11_seen_52 (by decide) (fun c52 => absurd (show nI s0.1.2.1 = 0 by rw [q1]; rfl) c52) (fun c52 => ?_)
        refine J_aload_n (pc := 55) dX11_seen_55 rfl ?_
        refine J_geti (pc := 56) dX11_seen_56 kc11 fl_X11_112 rfl ?_
        refine J_aload_n (pc := 59) dX11_seen_59 rfl ?_
        refine J_geti (pc := 60) dX11_seen_60 kc11 fl_X11_109 rfl ?_
        refine J_t1 (y := nI n) hxy.1 ?_
        refine J_icmp_ge (pc := 63) (tgt := 169) dX11_seen_63 (by decide) (fun c63 => ?_) (fun c63 => absurd (show nI n ≤ nI s0.1.1 from nI_le (by omega) (by have := hp.1; omega)) c63)
        exact hq Y _ l4 l5 l6 hp (fun z => q2 z.2) hO hL hI
    · rw [if_neg (fun z => q1 z.1)] at h
      cases h
      refine J_aload_n (pc := 48) dX11_seen_48 rfl ?_
      refine J_geti (pc := 49) dX11_seen_49 kc11 fl_X11_119 rfl ?_
      refine J_if_ne (pc := 52) (tgt := 169) dX11_seen_52 (by decide) (fun c52 => ?_) (fun c52 => absurd c52 (fun z => q1 ((nI_z hp.2.1).mp z)))
      exact hq Y _ l4 l5 l6 hp (fun z => q1 z.1) hO hL hI
theorem r_X11_seen_er {g : Gp} {S : Sx} {x : Int32} {tp : Nat} (ht : sf S 59 1 = nI tp) (hv : ¬ ((0 ≤ x ∧ x ≤ nI tp) ∧ x ≤ 60)) : RT g mX11_seen 2 [.ref 59, .int x] S (some (.int 0)) (er S 1 1) := by
  refine RT_ofQ ⟨rfl, rfl⟩ (Nat.le_of_ble_eq_true rfl) (fun sz Q hQ => ?_)
  refine J_aload_n (pc := 0) dX11_seen_0 rfl ?_
  refine J_iconst (pc := 1) (v := 0) dX11_seen_1 (by decide) ?_
  refine J_puti (pc := 2) dX11_seen_2 kc11 fl_X11_103 rfl ⟨rfl, rfl⟩ ?_
  refine J_aload_n (pc := 5) dX11_seen_5 rfl ?_
  refine J_iload_n (pc := 6) dX11_seen_6 rfl ?_
  refine J_iconst (pc := 7) (v := 0) dX11_seen_7 (by decide) ?_
  refine J_aload_n (pc := 8) dX11_seen_8 rfl ?_
  refine J_geti (pc := 9) dX11_seen_9 kc11 fl_X11_106 rfl ?_
  refine J_t1 ht ?_
  refine J_csr (pc := 12) (N := mX11_in) dX11_seen_12 ml_X11_137 cf_X11_in cs_X11_in r_X11_in rfl rfl (Nat.le_of_ble_eq_true rfl) (by decide) ?_
  refine J_ifp_eq (pc := 15) (tgt := 24) dX11_seen_15 (by decide) (fun c15 => ?_) (fun c15 => ?_)
  · refine J_iconst (pc := 24) (v := 1) dX11_seen_24 (by decide) ?_
    refine J_goto (pc := 25) (tgt := 29) dX11_seen_25 (by decide) ?_
    refine J_iconst (pc := 29) (v := 1) dX11_seen_29 (by decide) ?_
    refine J_iconst (pc := 30) (v := 1) dX11_seen_30 (by decide) ?_
    refine J_cvr (pc := 31) (N := mX11_bad) dX11_seen_31 ml_X11_183 cf_X11_bad cv_X11_bad (r_X11_bad_t (k := 1) rfl (by decide) (by decide) rfl) rfl rfl (Nat.le_of_ble_eq_true rfl) (by decide) (rv_of (ci := 11) rfl rfl rfl) ?_
    refine J_if_eq (pc := 34) (tgt := 39) dX11_seen_34 (by decide) (fun c34 => absurd c34 (by decide)) (fun c34 => ?_)
    refine J_iconst (pc := 37) (v := 0) dX11_seen_37 (by decide) ?_
    exact J_iret (pc := 38) rfl rfl rfl dX11_seen_38 (rq hQ (by first | rfl | simp [bI, *] | simp_all [bI]) rfl)
  · refine J_iload_n (pc := 18) dX11_seen_18 rfl ?_
    refine J_bipush (pc := 19) (v := 60) dX11_seen_19 (by decide) ?_
    refine J_icmp_le (pc := 21) (tgt := 28) dX11_seen_21 (by decide) (fun c21 => absurd ⟨c15, c21⟩ hv) (fun c21 => ?_)
    refine J_iconst (pc := 24) (v := 1) dX11_seen_24 (by decide) ?_
    refine J_goto (pc := 25) (tgt := 29) dX11_seen_25 (by decide) ?_
    refine J_iconst (pc := 29) (v := 1) dX11_seen_29 (by decide) ?_
    refine J_iconst (pc := 30) (v := 1) dX11_seen_30 (by decide) ?_
    refine J_cvr (pc := 31) (N := mX11_bad) dX11_seen_31 ml_X11_183 cf_X11_bad cv_X11_bad (r_X11_bad_t (k := 1) rfl (by decide) (by decide) rfl) rfl rfl (Nat.le_of_ble_eq_true rfl) (by decide) (rv_of (ci := 11) rfl rfl rfl) ?_
    refine J_if_eq (pc := 34) (tgt := 39) dX11_seen_34 (by decide) (fun c34 => absurd c34 (by decide)) (fun c34 => ?_)
    refine J_iconst (pc := 37) (v := 0) dX11_seen_37 (by decide) ?_
    exact J_iret (pc := 38) rfl rfl rfl dX11_seen_38 (rq hQ (by first | rfl | simp [bI, *] | simp_all [bI]) rfl)
theorem r_X11_seen_bad {g : Gp} {S : Sx} {n tp f ns nr np : Nat} {ow : Nat → Nat} {cc : Nat → Nat} {s : SNS} (hH : MH S ns nr np ow) (ht : sf S 59 1 = nI tp) (h6 : tp ≤ 600) (hnt : n ≤ tp) (hn1 : n ≤ 60) (hF : FD S n cc) (hr : snl cc n nr f ((pbl cc n 0, 0, 0), []) = some s) (hb : s.1.2.1 ≠ 0) : RI g mX11_seen 8 [.ref 59, .int (nI n)] S (fun x X => x = nI s.1.2.1 - 10 ∧ FRL pfF pfA (S0 S) X ∧ sf X 59 1 = 0 ∧ sf X 59 3 = nI s.1.2.2) := by
  refine RI_ofQ ⟨rfl, rfl⟩ (Nat.le_of_ble_eq_true rfl) (fun sz Q hQ => ?_)
  have hx := FD_TX hF
  have h10 : nr ≤ 10 := hH.2.2.2.2.1
  have p0 : PO n ((pbl cc n 0, 0, 0) : PT) := ⟨pbl_le cc (Nat.zero_le _), by show 0 ≤ 3; omega, Nat.zero_le _⟩
  have hsv : SV nr [] := ⟨List.nodup_nil, fun q hq => nomatch hq⟩
  have hfr0 : FRL pfF pfA (S0 S) (stS (S0 S) n) := FRL_st _ _
  refine J_aload_n (pc := 0) dX11_seen_0 rfl ?_
  refine J_iconst (pc := 1) (v := 0) dX11_seen_1 (by decide) ?_
  refine J_puti (pc := 2) dX11_seen_2 kc11 fl_X11_103 rfl ⟨rfl, rfl⟩ ?_
  refine J_aload_n (pc := 5) dX11_seen_5 rfl ?_
  refine J_iload_n (pc := 6) dX11_seen_6 rfl ?_
  refine J_iconst (pc := 7) (v := 0) dX11_seen_7 (by decide) ?_
  refine J_aload_n (pc := 8) dX11_seen_8 rfl ?_
  refine J_geti (pc := 9) dX11_seen_9 kc11 fl_X11_106 rfl ?_
  refine J_t1 ht ?_
  refine J_csr (pc := 12) (N := mX11_in) dX11_seen_12 ml_X11_137 cf_X11_in cs_X11_in r_X11_in rfl rfl (Nat.le_of_ble_eq_true rfl) (by decide) ?_
  refine J_ifp_eq (pc := 15) (tgt := 24) dX11_seen_15 (by decide) (fun c15 => absurd (inw2 (a := 0) (b := tp) rfl rfl (Nat.zero_le _) hnt (by omega)) c15) (fun c15 => ?_)
  refine J_iload_n (pc := 18) dX11_seen_18 rfl ?_
  refine J_bipush (pc := 19) (v := 60) dX11_seen_19 (by decide) ?_
  refine J_icmp_le (pc := 21) (tgt := 28) dX11_seen_21 (by decide) (fun c21 => ?_) (fun c21 => absurd ((nI_leI (b := 60) (by omega) (by decide)).mpr hn1) c21)
  refine J_iconst (pc := 28) (v := 0) dX11_seen_28 (by decide) ?_
  refine J_iconst (pc := 29) (v := 1) dX11_seen_29 (by decide) ?_
  refine J_iconst (pc := 30) (v := 1) dX11_seen_30 (by decide) ?_
  refine J_cvr (pc := 31) (N := mX11_bad) dX11_seen_31 ml_X11_183 cf_X11_bad cv_X11_bad (r_X11_bad_f rfl) rfl rfl (Nat.le_of_ble_eq_true rfl) (by decide) (rv_of (ci := 11) rfl rfl rfl) ?_
  refine J_if_eq (pc := 34) (tgt := 39) dX11_seen_34 (by decide) (fun c34 => ?_) (fun c34 => absurd rfl c34)
  refine J_aload_n (pc := 39) dX11_seen_39 rfl ?_
  refine J_iload_n (pc := 40) dX11_seen_40 rfl ?_
  refine J_cvv (pc := 41) (N := mX11_starts) dX11_seen_41 ml_X11_187 cf_X11_starts cv_X11_starts (r_X11_starts (S := S0 S) hx) rfl rfl (Nat.le_of_ble_eq_true rfl) (by decide) (rv_of (ci := 11) rfl rfl rfl) ?_
  refine J_iconst (pc := 44) (v := 0) dX11_seen_44 (by decide) ?_
  refine J_istore_n (pc := 45) dX11_seen_45 (by decide) rfl ?_
  refine J_iconst (pc := 46) (v := 0) dX11_seen_46 (by decide) ?_
  refine J_istore_n (pc := 47) dX11_seen_47 (by decide) rfl ?_
  refine seen_loop (B := stS (S0 S) n) hx hH.2.1 h10 f (stS (S0 S) n) ((pbl cc n 0, 0, 0), []) s none none none p0 hsv (FRL_r _ _ _) (fun i hi => absurd hi (Nat.not_lt_zero i)) hr (fun Y b k4 k5 k6 hp hx9 hO hL hV => ?_)
  have hfr : FRL pfF pfA (S0 S) Y := FRL_t hfr0 (FRL_mono hO (fun _ _ _ => rfl) (imp_f rlA_pf))
  have h1z : sf Y 59 1 = 0 := (hO.1.1 59 1 rfl).trans rfl
  refine J_aload_n (pc := 169) dX11_seen_169 rfl ?_
  refine J_geti (pc := 170) dX11_seen_170 kc11 fl_X11_119 rfl ?_
  refine J_t1 (y := nI s.1.2.1) rfl ?_
  refine J_if_eq (pc := 173) (tgt := 181) dX11_seen_173 (by decide) (fun c173 => absurd c173 (fun z => hb ((nI_z hp.2.1).mp z))) (fun c173 => ?_)
  refine J_aload_n (pc := 176) dX11_seen_176 rfl ?_
  refine J_cvr (pc := 177) (N := mX11_ends) dX11_seen_177 ml_X11_193 cf_X11_ends cv_X11_ends (r_X11_ends (S := Y) (a := s.1.1) (k := s.1.2.1) (p := s.1.2.2) hb) rfl rfl (Nat.le_of_ble_eq_true rfl) (by decide) (rv_of (ci := 11) rfl rfl rfl) ?_
  exact J_iret (pc := 180) rfl rfl rfl dX11_seen_180 (hQ _ _ ⟨rfl, FRL_ps rfl rfl rfl (FRL_F hfr rfl), h1z, rfl⟩)
theorem r_X11_seen {g : Gp} {S : Sx} {n tp f ns nr np : Nat} {ow : Nat → Nat} {cc : Nat → Nat} {s : SNS} (hH : MH S ns nr np ow) (ht : sf S 59 1 = nI tp) (h6 : tp ≤ 600) (hnt : n ≤ tp) (hn1 : n ≤ 60) (hF : FD S n cc) (hr : snl cc n nr f ((pbl cc n 0, 0, 0), []) = some s) (hb : s.1.2.1 = 0) : RI g mX11_seen 8 [.ref 59, .int (nI n)] S (fun x X => x = nI s.2.length ∧ FRL snF snA (S0 S) X ∧ sf X 59 1 = 0 ∧ sf X 59 3 = -1 ∧ sf X 59 35 = nI s.2.length ∧ SL X 431 s.2 ∧ SV nr s.2) := by
  refine RI_ofQ ⟨rfl, rfl⟩ (Nat.le_of_ble_eq_true rfl) (fun sz Q hQ => ?_)
  have hx := FD_TX hF
  have h10 : nr ≤ 10 := hH.2.2.2.2.1
  have p0 : PO n ((pbl cc n 0, 0, 0) : PT) := ⟨pbl_le cc (Nat.zero_le _), by show 0 ≤ 3; omega, Nat.zero_le _⟩
  have hsv : SV nr [] := ⟨List.nodup_nil, fun q hq => nomatch hq⟩
  have hfr0 : FRL pfF pfA (S0 S) (stS (S0 S) n) := FRL_st _ _
  refine J_aload_n (pc := 0) dX11_seen_0 rfl ?_
  refine J_iconst (pc := 1) (v := 0) dX11_seen_1 (by decide) ?_
  refine J_puti (pc := 2) dX11_seen_2 kc11 fl_X11_103 rfl ⟨rfl, rfl⟩ ?_
  refine J_aload_n (pc := 5) dX11_seen_5 rfl ?_
  refine J_iload_n (pc := 6) dX11_seen_6 rfl ?_
  refine J_iconst (pc := 7) (v := 0) dX11_seen_7 (by decide) ?_
  refine J_aload_n (pc := 8) dX11_seen_8 rfl ?_
  refine J_geti (pc := 9) dX11_seen_9 kc11 fl_X11_106 rfl ?_
  refine J_t1 ht ?_
  refine J_csr (pc := 12) (N := mX11_in) dX11_seen_12 ml_X11_137 cf_X11_in cs_X11_in r_X11_in rfl rfl (Nat.le_of_ble_eq_true rfl) (by decide) ?_
  refine J_ifp_eq (pc := 15) (tgt := 24) dX11_seen_15 (by decide) (fun c15 => absurd (inw2 (a := 0) (b := tp) rfl rfl (Nat.zero_le _) hnt (by omega)) c15) (fun c15 => ?_)
  refine J_iload_n (pc := 18) dX11_seen_18 rfl ?_
  refine J_bipush (pc := 19) (v := 60) dX11_seen_19 (by decide) ?_
  refine J_icmp_le (pc := 21) (tgt := 28) dX11_seen_21 (by decide) (fun c21 => ?_) (fun c21 => absurd ((nI_leI (b := 60) (by omega) (by decide)).mpr hn1) c21)
  refine J_iconst (pc := 28) (v := 0) dX11_seen_28 (by decide) ?_
  refine J_iconst (pc := 29) (v := 1) dX11_seen_29 (by decide) ?_
  refine J_iconst (pc := 30) (v := 1) dX11_seen_30 (by decide) ?_
  refine J_cvr (pc := 31) (N := mX11_bad) dX11_seen_31 ml_X11_183 cf_X11_bad cv_X11_bad (r_X11_bad_f rfl) rfl rfl (Nat.le_of_ble_eq_true rfl) (by decide) (rv_of (ci := 11) rfl rfl rfl) ?_
  refine J_if_eq (pc := 34) (tgt := 39) dX11_seen_34 (by decide) (fun c34 => ?_) (fun c34 => absurd rfl c34)
  refine J_aload_n (pc := 39) dX11_seen_39 rfl ?_
  refine J_iload_n (pc := 40) dX11_seen_40 rfl ?_
  refine J_cvv (pc := 41) (N := mX11_starts) dX11_seen_41 ml_X11_187 cf_X11_starts cv_X11_starts (r_X11_starts (S := S0 S) hx) rfl rfl (Nat.le_of_ble_eq_true rfl) (by decide) (rv_of (ci := 11) rfl rfl rfl) ?_
  refine J_iconst (pc := 44) (v := 0) dX11_seen_44 (by decide) ?_
  refine J_istore_n (pc := 45) dX11_seen_45 (by decide) rfl ?_
  refine J_iconst (pc := 46) (v := 0) dX11_seen_46 (by decide) ?_
  refine J_istore_n (pc := 47) dX11_seen_47 (by decide) rfl ?_
  refine seen_loop (B := stS (S0 S) n) hx hH.2.1 h10 f (stS (S0 S) n) ((pbl cc n 0, 0, 0), []) s none none none p0 hsv (FRL_r _ _ _) (fun i hi => absurd hi (Nat.not_lt_zero i)) hr (fun Y b k4 k5 k6 hp hx9 hO hL hV => ?_)
  have hfr : FRL pfF pfA (S0 S) Y := FRL_t hfr0 (FRL_mono hO (fun _ _ _ => rfl) (imp_f rlA_pf))
  have h1z : sf Y 59 1 = 0 := (hO.1.1 59 1 rfl).trans rfl
  have hlen := SV_len hV
  have hfr2 : FRL snF snA (S0 S) Y := FRL_mono hfr (fun a k q => by unfold snF at q; cases e : pfF a k; (rfl); (rw [e] at q; cases q)) (fun a q => by unfold snA at q; cases e : pfA a; (rfl); (rw [e] at q; cases q))
  refine J_aload_n (pc := 169) dX11_seen_169 rfl ?_
  refine J_geti (pc := 170) dX11_seen_170 kc11 fl_X11_119 rfl ?_
  refine J_t1 (y := nI s.1.2.1) rfl ?_
  refine J_if_eq (pc := 173) (tgt := 181) dX11_seen_173 (by decide) (fun c173 => ?_) (fun c173 => absurd (show nI s.1.2.1 = 0 by rw [hb]; rfl) c173)
  refine J_aload_n (pc := 181) dX11_seen_181 rfl ?_
  refine J_iconst (pc := 182) (v := -1) dX11_seen_182 (by decide) ?_
  refine J_puti (pc := 183) dX11_seen_183 kc11 fl_X11_9 rfl ⟨rfl, rfl⟩ ?_
  refine J_cg2 (ps_sF Y s.1 (by decide) (by decide) (by decide)) ?_
  refine J_aload_n (pc := 186) dX11_seen_186 rfl ?_
  refine J_iload_n (pc := 187) dX11_seen_187 rfl ?_
  refine J_puti (pc := 188) dX11_seen_188 kc11 fl_X11_203 rfl ⟨rfl, rfl⟩ ?_
  refine J_cg2 (ps_sF (sF Y 59 3 (-1)) s.1 (by decide) (by decide) (by decide)) ?_
  have hfr3 : FRL snF snA (S0 S) (ps (sF (sF Y 59 3 (-1)) 59 35 (nI s.2.length)) s.1) := FRL_ps rfl rfl rfl (FRL_F (FRL_F hfr2 rfl) rfl)
  obtain ⟨Z, hZ⟩ : ∃ Z, Z = ps (sF (sF Y 59 3 (-1)) 59 35 (nI s.2.length)) s.1 := ⟨_, rfl⟩
  have z1 : sf Z 59 1 = 0 := by rw [hZ]; exact h1z
  have z3 : sf Z 59 3 = -1 := by rw [hZ]; rfl
  have z35 : sf Z 59 35 = nI s.2.length := by rw [hZ]; rfl
  have zL : SL Z 442 s.2 := by rw [hZ]; exact hL
  rw [← hZ] at hfr3 ⊢
  refine J_aload_n (pc := 191) dX11_seen_191 rfl ?_
  refine J_getr (pc := 192) dX11_seen_192 kc11 fl_X11_61 rfl ?_
  refine J_aload_n (pc := 195) dX11_seen_195 rfl ?_
  refine J_getr (pc := 196) dX11_seen_196 kc11 fl_X11_58 rfl ?_
  refine J_iload_n (pc := 199) dX11_seen_199 rfl ?_
  refine J_csv (pc := 200) (N := mX11_lays) dX11_seen_200 ml_X11_196 cf_X11_lays cs_X11_lays (r_X11_lays (S := Z) (A := 441) (a0 := 442) (B := 430) (b0 := 431) (N := 10) (w := 2) (m := s.2.length) rfl rfl (fun k hk => lay_readLine hk) (fun k hk => lay_line hk) (by omega) (by omega) (by decide) (by decide)) rfl rfl (Nat.le_of_ble_eq_true rfl) (by decide) ?_
  refine J_iload_n (pc := 203) dX11_seen_203 rfl ?_
  exact J_iret rfl rfl rfl dX11_seen_204 (hQ _ _ ⟨rfl, FRL_t hfr3 ⟨⟨fun _ _ _ => rfl, rfl, fun a q => ly_o' (by
      rcases Nat.lt_or_ge a 431 with h | h
      · exact Or.inl h
      · rcases Nat.lt_or_ge a (431 + s.2.length) with h2 | h2
        · exfalso
          have : ∀ i, i < 10 → snA (431 + i) = true := by decide
          have := this (a - 431) (by omega)
          rw [show 431 + (a - 431) = a by omega, q] at this
          cases this
        · exact Or.inr h2)⟩, rfl⟩, z1, z3, z35, fun i hi => by rw [ly_v hi (by decide), ly_v hi (by decide)]; exact zL i hi, hV⟩)

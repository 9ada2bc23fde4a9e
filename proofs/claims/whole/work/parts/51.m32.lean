/-! ===== the model reads a clause ===== -/
theorem sa_sA (Y : Sx) (a k : Nat) (v : Int32) (b j : Nat) : sa (sA Y a k v) b j = if b = a then (if j = k then v else sa Y b j) else sa Y b j := rfl
theorem sa_e (Y : Sx) (a k : Nat) (v : Int32) : sa (sA Y a k v) a k = v := by rw [sa_sA, if_pos rfl, if_pos rfl]
theorem sa_n {Y : Sx} {a k : Nat} {v : Int32} {j : Nat} (h : j ≠ k) : sa (sA Y a k v) a j = sa Y a j := by rw [sa_sA, if_pos rfl, if_neg h]
theorem sa_o {Y : Sx} {a k : Nat} {v : Int32} {b : Nat} (h : b ≠ a) (j : Nat) : sa (sA Y a k v) b j = sa Y b j := by rw [sa_sA, if_neg h]
theorem len1 {α : Type} (l : List α) (x : α) : (l ++ [x]).length = l.length + 1 := by simp
theorem HM_F {Y : Sx} {d : HD} {v : Int32} {y : Nat} (h : HM Y d) : HM (sF Y 59 y v) d := h
theorem HM_0 {Y : Sx} {d : HD} (h : HM Y d) (hl : d.1.length < 8) (v : Nat) : HM (sA (sA Y 64 d.1.length (nI v)) 62 0 (nI (d.1.length + 1))) (d.1 ++ [v], d.2) := by
  obtain ⟨h1, h2, h3, h4, h5, h6, h7, h8, h9, h10⟩ := h
  refine ⟨?_, ?_, ?_, ?_, h5, h6, fun i hi => ?_, fun i hi => ?_, fun i hi => ?_, fun i hi => ?_⟩
  · rw [sa_e]; show _ = nI (d.1 ++ [v]).length; rw [len1]
  · rw [sa_n (by decide), sa_o (by decide)]; exact h2
  · rw [sa_n (by decide), sa_o (by decide)]; exact h3
  · show (d.1 ++ [v]).length ≤ 8; rw [len1]; omega
  · have hi : i < (d.1 ++ [v]).length := hi
    rw [len1] at hi
    rw [sa_o (by decide)]
    show _ = nI ((d.1 ++ [v]).getD i 0)
    by_cases e : i = d.1.length
    · rw [e, sa_e, getD_e]
    · rw [sa_n e, getD_l (by omega)]; exact h7 i (by omega)
  · rw [sa_o (by decide), sa_o (by decide)]; exact h8 i hi
  · have hi : i < d.2.2.1.length := hi
    rw [sa_o (by omega), sa_o (by omega), sa_o (by omega), sa_o (by omega), sa_o (by omega), sa_o (by omega)]; exact h9 i hi
  · have hi : i < d.2.2.2.length := hi
    rw [sa_o (by omega), sa_o (by omega), sa_o (by omega), sa_o (by omega)]; exact h10 i hi
theorem HM_1 {Y : Sx} {d : HD} (h : HM Y d) (hl : d.2.2.1.length < 10) (u v w : Nat) : HM (sA (sA (sA (sA Y (69 + d.2.2.1.length) 0 (nI u)) (69 + d.2.2.1.length) 1 (nI v)) (69 + d.2.2.1.length) 2 (nI w)) 62 1 (nI (d.2.2.1.length + 1))) (d.1, d.2.1, d.2.2.1 ++ [(u, v, w)], d.2.2.2) := by
  obtain ⟨h1, h2, h3, h4, h5, h6, h7, h8, h9, h10⟩ := h
  refine ⟨?_, ?_, ?_, h4, ?_, h6, fun i hi => ?_, fun i hi => ?_, fun i hi => ?_, fun i hi => ?_⟩
  · rw [sa_n (by decide), sa_o (by omega), sa_o (by omega), sa_o (by omega)]; exact h1
  · rw [sa_e]; show _ = nI (d.2.2.1 ++ [_]).length; rw [len1]
  · rw [sa_n (by decide), sa_o (by omega), sa_o (by omega), sa_o (by omega)]; exact h3
  · show (d.2.2.1 ++ [_]).length ≤ 10; rw [len1]; omega
  · rw [sa_o (by decide), sa_o (by omega), sa_o (by omega), sa_o (by omega)]; exact h7 i hi
  · rw [sa_o (by decide), sa_o (by omega), sa_o (by omega), sa_o (by omega)]; exact h8 i hi
  · have hi : i < (d.2.2.1 ++ [(u, v, w)]).length := hi
    rw [len1] at hi
    show _ = nI ((d.2.2.1 ++ [(u, v, w)]).getD i (0, 0, 0)).1 ∧ _ = nI ((d.2.2.1 ++ [(u, v, w)]).getD i (0, 0, 0)).2.1 ∧ _ = nI ((d.2.2.1 ++ [(u, v, w)]).getD i (0, 0, 0)).2.2
    have n62 : ¬ (69 + i = 62) := by omega
    by_cases e : i = d.2.2.1.length
    · rw [e] at n62 ⊢
      rw [getD_e]
      refine ⟨?_, ?_, ?_⟩ <;> simp [sa_sA, n62]
    · have ne : ¬ (69 + i = 69 + d.2.2.1.length) := by omega
      have := h9 i (by omega)
      rw [getD_l (by omega)]
      simp only [sa_sA, if_neg n62, if_neg ne]
      exact this
  · have hi : i < d.2.2.2.length := hi
    rw [sa_o (by omega), sa_o (by omega), sa_o (by omega), sa_o (by omega), sa_o (by omega), sa_o (by omega), sa_o (by omega), sa_o (by omega)]; exact h10 i hi
theorem HM_2 {Y : Sx} {d : HD} (h : HM Y d) (hl : d.2.2.2.length < 8) (u v : Nat) : HM (sA (sA (sA Y (91 + d.2.2.2.length) 0 (nI u)) (91 + d.2.2.2.length) 1 (nI v)) 62 2 (nI (d.2.2.2.length + 1))) (d.1, d.2.1, d.2.2.1, d.2.2.2 ++ [(u, v)]) := by
  obtain ⟨h1, h2, h3, h4, h5, h6, h7, h8, h9, h10⟩ := h
  refine ⟨?_, ?_, ?_, h4, h5, ?_, fun i hi => ?_, fun i hi => ?_, fun i hi => ?_, fun i hi => ?_⟩
  · rw [sa_n (by decide), sa_o (by omega), sa_o (by omega)]; exact h1
  · rw [sa_n (by decide), sa_o (by omega), sa_o (by omega)]; exact h2
  · rw [sa_e]; show _ = nI (d.2.2.2 ++ [_]).length; rw [len1]
  · show (d.2.2.2 ++ [_]).length ≤ 8; rw [len1]; omega
  · rw [sa_o (by decide), sa_o (by omega), sa_o (by omega)]; exact h7 i hi
  · rw [sa_o (by decide), sa_o (by omega), sa_o (by omega)]; exact h8 i hi
  · have hi : i < d.2.2.1.length := hi
    rw [sa_o (by omega), sa_o (by omega), sa_o (by omega), sa_o (by omega), sa_o (by omega), sa_o (by omega), sa_o (by omega), sa_o (by omega), sa_o (by omega)]; exact h9 i hi
  · have hi : i < (d.2.2.2 ++ [(u, v)]).length := hi
    rw [len1] at hi
    show _ = nI ((d.2.2.2 ++ [(u, v)]).getD i (0, 0)).1 ∧ _ = nI ((d.2.2.2 ++ [(u, v)]).getD i (0, 0)).2
    have n62 : ¬ (91 + i = 62) := by omega
    by_cases e : i = d.2.2.2.length
    · rw [e] at n62 ⊢
      rw [getD_e]
      refine ⟨?_, ?_⟩ <;> simp [sa_sA, n62]
    · have ne : ¬ (91 + i = 91 + d.2.2.2.length) := by omega
      have := h10 i (by omega)
      rw [getD_l (by omega)]
      simp only [sa_sA, if_neg n62, if_neg ne]
      exact this
theorem HM_3 {Y : Sx} {d : HD} (h : HM Y d) (u v : Nat) : HM (sA Y 66 u (nI v)) (d.1, updO d.2.1 u (some v), d.2.2) := by
  obtain ⟨h1, h2, h3, h4, h5, h6, h7, h8, h9, h10⟩ := h
  refine ⟨h1, h2, h3, h4, h5, h6, h7, fun i hi => ?_, fun i hi => ?_, fun i hi => ?_⟩
  · show _ = ov (updO d.2.1 u (some v) i)
    unfold updO
    by_cases e : i = u
    · rw [if_pos e, e, sa_e]; rfl
    · rw [if_neg e, sa_n e]; exact h8 i hi
  · have hi : i < d.2.2.1.length := hi
    rw [sa_o (by omega), sa_o (by omega), sa_o (by omega)]; exact h9 i hi
  · have hi : i < d.2.2.2.length := hi
    rw [sa_o (by omega), sa_o (by omega)]; exact h10 i hi
theorem hA69 {i : Nat} (h : i < 10) : hA (69 + i) = true := by
  have : ∀ i, i < 10 → hA (69 + i) = true := by decide
  exact this i h
theorem hA91 {i : Nat} (h : i < 8) : hA (91 + i) = true := by
  have : ∀ i, i < 8 → hA (91 + i) = true := by decide
  exact this i h
set_option maxHeartbeats 4000000 in
theorem cla_0 {g : Gp} {n : Nat} {cc : Nat → Nat} {S Y : Sx} {a b h cl : Nat} {d : HD} (hx : TX S n cc) (hO : HO S Y) (hM : HM Y d) (hc7 : sf Y 59 7 = nI cl) (hcl60 : cl ≤ 60) (ha : a ≤ n) (hh : h ≤ n) (hb : pbl cc n a = b) (hw : wix cc n b wHou 0 = some 0) {sz : Nat} {Q : Po} (hQ : ∀ X, (fun X => ∃ Y', X = ps Y' (hcl cc n ((a, 0, h), cl, d)).1 ∧ HO S Y' ∧ ((hcl cc n ((a, 0, h), cl, d)).1.2.1 = 0 → HM Y' (hcl cc n ((a, 0, h), cl, d)).2.2 ∧ sf Y' 59 7 = nI (hcl cc n ((a, 0, h), cl, d)).2.1)) X → Q (.inl none) (hs X) sz) : J g mX11_clause 6 [] 5 [some (.ref 59), some (.int 0), none, none, none] [] (hs (ps Y (b, 0, h))) sz 0 0 Q := by
  have hM' := hM
  have hn6 := hx.2.1
  have hn9 := hx.2.2.2 n (Nat.le_refl _)
  have hxy := HO_TX hO hx
  have hbl : b ≤ n := by rw [← hb]; exact pbl_le cc ha
  obtain ⟨e0, e1, e2, l0, l1, l2, m7, m8, m9, m10⟩ := hM
  have hw3 := wix_3 (by decide) hw
  have hwl := pwe_le cc hbl
  have p0 : PO n ((pwe cc n b, 0, h) : PT) := ⟨hwl, by show 0 ≤ 3; omega, hh⟩
  have hE : hcl cc n ((a, 0, h), cl, d) = if cl = 60 ∨ hfull d 0 = true then ((b, 3, b), cl, d) else (psg cc n 59 (hck cc n 0 (pwe cc n b, 0, h) d).1, cl + 1, (hck cc n 0 (pwe cc n b, 0, h) d).2) := by unfold hcl; rw [hb, hw]
  by_cases c60 : cl = 60
  · have hc : cl = 60 ∨ hfull d 0 = true := Or.inl c60
    refine J_iload_n (pc := 5) dX11_clause_5 rfl ?_
    refine J_iconst (pc := 6) (v := -1) dX11_clause_6 (by decide) ?_
    refine J_icmp_ne (pc := 7) (tgt := 22) dX11_clause_7 (by decide) (fun c7 => ?_) (fun c7 => absurd c7 (by decide))
    refine J_aload_n (pc := 22) dX11_clause_22 rfl ?_
    refine J_geti (pc := 23) dX11_clause_23 kc11 fl_X11_159 rfl ?_
    refine J_t1 hc7 ?_
    refine J_bipush (pc := 26) (v := 60) dX11_clause_26 (by decide) ?_
    refine J_icmp_eq (pc := 28) (tgt := 49) dX11_clause_28 (by decide) (fun c28 => ?_) (fun c28 => absurd (show nI cl = 60 by rw [c60]; rfl) c28)
    refine J_aload_n (pc := 49) dX11_clause_49 rfl ?_
    refine J_iconst (pc := 50) (v := 3) dX11_clause_50 (by decide) ?_
    refine J_aload_n (pc := 51) dX11_clause_51 rfl ?_
    refine J_geti (pc := 52) dX11_clause_52 kc11 fl_X11_112 rfl ?_
    refine J_cvv (pc := 55) (N := mX11_wrong) dX11_clause_55 ml_X11_132 cf_X11_wrong cv_X11_wrong (r_wr (S := Y) (t := (b, 0, h)) (k := 3) (h := b) (show 0 ≤ 3 by decide) (by decide)) rfl rfl (Nat.le_of_ble_eq_true rfl) (by decide) (rv_of (ci := 11) rfl rfl rfl) ?_
    refine J_cg2 (S' := ps Y (b, 3, b)) (ps_same rfl) ?_
    refine J_aload_n (pc := 58) dX11_clause_58 rfl ?_
    refine J_geti (pc := 59) dX11_clause_59 kc11 fl_X11_119 rfl ?_
    refine J_if_eq (pc := 62) (tgt := 66) dX11_clause_62 (by decide) (fun c62 => absurd c62 (show ¬ nI 3 = 0 by decide)) (fun c62 => ?_)
    exact J_ret (pc := 65) rfl rfl dX11_clause_65 (hQ _ ⟨Y, by rw [hE, if_pos hc], hO, fun z => by rw [hE, if_pos hc] at z; exact absurd z (by show ¬ 3 = 0; omega)⟩)
  · by_cases qf : d.1.length = 8
    · have hc : cl = 60 ∨ hfull d 0 = true := Or.inr (by unfold hfull; rw [qf]; rfl)
      refine J_iload_n (pc := 5) dX11_clause_5 rfl ?_
      refine J_iconst (pc := 6) (v := -1) dX11_clause_6 (by decide) ?_
      refine J_icmp_ne (pc := 7) (tgt := 22) dX11_clause_7 (by decide) (fun c7 => ?_) (fun c7 => absurd c7 (by decide))
      refine J_aload_n (pc := 22) dX11_clause_22 rfl ?_
      refine J_geti (pc := 23) dX11_clause_23 kc11 fl_X11_159 rfl ?_
      refine J_t1 hc7 ?_
      refine J_bipush (pc := 26) (v := 60) dX11_clause_26 (by decide) ?_
      refine J_icmp_eq (pc := 28) (tgt := 49) dX11_clause_28 (by decide) (fun c28 => absurd c28 (fun z => c60 ((nI_eq (b := 60) (by omega) (by decide)).mp z))) (fun c28 => ?_)
      refine J_iload_n (pc := 31) dX11_clause_31 rfl ?_
      refine J_iconst (pc := 32) (v := 3) dX11_clause_32 (by decide) ?_
      refine J_icmp_ge (pc := 33) (tgt := 58) dX11_clause_33 (by decide) (fun c33 => absurd c33 (by decide)) (fun c33 => ?_)
      refine J_aload_n (pc := 36) dX11_clause_36 rfl ?_
      refine J_getr (pc := 37) dX11_clause_37 kc11 fl_X11_20 rfl ?_
      refine J_iload_n (pc := 40) dX11_clause_40 rfl ?_
      refine J_il (pc := 41) dX11_clause_41 (by first | rfl | assumption) (rfl : (0 : Int32) = nI 0) ⟨by first | decide | omega, by decide⟩ ?_
      refine J_t1 (y := nI d.1.length) e0 ?_
      refine J_iload_n (pc := 42) dX11_clause_42 rfl ?_
      refine J_st (st' := [.int (nI 0), .int (nI d.1.length)]) rfl ?_
      refine J_csr (pc := 43) (N := mX11_mostOf) dX11_clause_43 ml_X11_172 cf_X11_mostOf cs_X11_mostOf (r_X11_mostOf (S := ps Y (b, 0, h)) (k := 0) (by decide)) rfl rfl (Nat.le_of_ble_eq_true rfl) (by decide) ?_
      refine J_t1 (y := 8) rfl ?_
      refine J_icmp_ne (pc := 46) (tgt := 58) dX11_clause_46 (by decide) (fun c46 => absurd (show nI d.1.length = 8 by rw [qf]; rfl) c46) (fun c46 => ?_)
      refine J_aload_n (pc := 49) dX11_clause_49 rfl ?_
      refine J_iconst (pc := 50) (v := 3) dX11_clause_50 (by decide) ?_
      refine J_aload_n (pc := 51) dX11_clause_51 rfl ?_
      refine J_geti (pc := 52) dX11_clause_52 kc11 fl_X11_112 rfl ?_
      refine J_cvv (pc := 55) (N := mX11_wrong) dX11_clause_55 ml_X11_132 cf_X11_wrong cv_X11_wrong (r_wr (S := Y) (t := (b, 0, h)) (k := 3) (h := b) (show 0 ≤ 3 by decide) (by decide)) rfl rfl (Nat.le_of_ble_eq_true rfl) (by decide) (rv_of (ci := 11) rfl rfl rfl) ?_
      refine J_cg2 (S' := ps Y (b, 3, b)) (ps_same rfl) ?_
      refine J_aload_n (pc := 58) dX11_clause_58 rfl ?_
      refine J_geti (pc := 59) dX11_clause_59 kc11 fl_X11_119 rfl ?_
      refine J_if_eq (pc := 62) (tgt := 66) dX11_clause_62 (by decide) (fun c62 => absurd c62 (show ¬ nI 3 = 0 by decide)) (fun c62 => ?_)
      exact J_ret (pc := 65) rfl rfl dX11_clause_65 (hQ _ ⟨Y, by rw [hE, if_pos hc], hO, fun z => by rw [hE, if_pos hc] at z; exact absurd z (by show ¬ 3 = 0; omega)⟩)
    · have hc : ¬ (cl = 60 ∨ hfull d 0 = true) := by
        intro z
        rcases z with z | z
        · exact c60 z
        · unfold hfull at z
          simp at z
          exact qf z
      rw [if_neg hc] at hE
      have hlt : d.1.length < 8 := by omega
      have hY0 : HO S (sF Y 59 7 (nI (cl + 1))) := HO_F hO
      have hx0 := HO_TX hY0 hx
      have hoY : HO S (sA (sF Y 59 7 (nI (cl + 1))) 64 d.1.length (nI (pnum cc n 0 16 (pwe cc n b, 0, h)).1)) := HO_A hY0 rfl
      have pF : PO n (pnum cc n 0 16 (pwe cc n b, 0, h)).2 := PO_num hx p0 0 16
      by_cases qn : (pnum cc n 0 16 (pwe cc n b, 0, h)).2.2.1 = 0
      · have hoF : HO S (sA (sA (sF Y 59 7 (nI (cl + 1))) 64 d.1.length (nI (pnum cc n 0 16 (pwe cc n b, 0, h)).1)) 62 0 (nI (d.1.length + 1))) := HO_A hoY rfl
        refine J_iload_n (pc := 5) dX11_clause_5 rfl ?_
        refine J_iconst (pc := 6) (v := -1) dX11_clause_6 (by decide) ?_
        refine J_icmp_ne (pc := 7) (tgt := 22) dX11_clause_7 (by decide) (fun c7 => ?_) (fun c7 => absurd c7 (by decide))
        refine J_aload_n (pc := 22) dX11_clause_22 rfl ?_
        refine J_geti (pc := 23) dX11_clause_23 kc11 fl_X11_159 rfl ?_
        refine J_t1 hc7 ?_
        refine J_bipush (pc := 26) (v := 60) dX11_clause_26 (by decide) ?_
        refine J_icmp_eq (pc := 28) (tgt := 49) dX11_clause_28 (by decide) (fun c28 => absurd c28 (fun z => c60 ((nI_eq (b := 60) (by omega) (by decide)).mp z))) (fun c28 => ?_)
        refine J_iload_n (pc := 31) dX11_clause_31 rfl ?_
        refine J_iconst (pc := 32) (v := 3) dX11_clause_32 (by decide) ?_
        refine J_icmp_ge (pc := 33) (tgt := 58) dX11_clause_33 (by decide) (fun c33 => absurd c33 (by decide)) (fun c33 => ?_)
        refine J_aload_n (pc := 36) dX11_clause_36 rfl ?_
        refine J_getr (pc := 37) dX11_clause_37 kc11 fl_X11_20 rfl ?_
        refine J_iload_n (pc := 40) dX11_clause_40 rfl ?_
        refine J_il (pc := 41) dX11_clause_41 (by first | rfl | assumption) (rfl : (0 : Int32) = nI 0) ⟨by first | decide | omega, by decide⟩ ?_
        refine J_t1 (y := nI d.1.length) e0 ?_
        refine J_iload_n (pc := 42) dX11_clause_42 rfl ?_
        refine J_st (st' := [.int (nI 0), .int (nI d.1.length)]) rfl ?_
        refine J_csr (pc := 43) (N := mX11_mostOf) dX11_clause_43 ml_X11_172 cf_X11_mostOf cs_X11_mostOf (r_X11_mostOf (S := ps Y (b, 0, h)) (k := 0) (by decide)) rfl rfl (Nat.le_of_ble_eq_true rfl) (by decide) ?_
        refine J_t1 (y := 8) rfl ?_
        refine J_icmp_ne (pc := 46) (tgt := 58) dX11_clause_46 (by decide) (fun c46 => ?_) (fun c46 => absurd c46 (fun z => qf ((nI_eq (b := 8) (by omega) (by decide)).mp z)))
        refine J_aload_n (pc := 58) dX11_clause_58 rfl ?_
        refine J_geti (pc := 59) dX11_clause_59 kc11 fl_X11_119 rfl ?_
        refine J_if_eq (pc := 62) (tgt := 66) dX11_clause_62 (by decide) (fun c62 => ?_) (fun c62 => absurd (show nI 0 = 0 from rfl) c62)
        refine J_aload_n (pc := 66) dX11_clause_66 rfl ?_
        refine J_cvv (pc := 67) (N := mX11_skipWord) dX11_clause_67 ml_X11_156 cf_X11_skipWord cv_X11_skipWord (r_X11_skipWord (S := Y) (t := (b, 0, h)) hxy hbl) rfl rfl (Nat.le_of_ble_eq_true rfl) (by decide) (rv_of (ci := 11) rfl rfl rfl) ?_
        refine J_aload_n (pc := 70) dX11_clause_70 rfl ?_
        refine J_dup (pc := 71) dX11_clause_71 rfl ?_
        refine J_geti (pc := 72) dX11_clause_72 kc11 fl_X11_159 rfl ?_
        refine J_t1 (y := nI cl) hc7 ?_
        refine J_iconst (pc := 75) (v := 1) dX11_clause_75 (by decide) ?_
        refine J_iadd (pc := 76) dX11_clause_76 ?_
        refine J_t1 (nI_1 cl) ?_
        refine J_puti (pc := 77) dX11_clause_77 kc11 fl_X11_159 rfl ⟨rfl, rfl⟩ ?_
        refine J_cg2 (ps_sF Y _ (by decide) (by decide) (by decide)) ?_
        refine J_iload_n (pc := 80) dX11_clause_80 rfl ?_
        refine J_iconst (pc := 81) (v := 3) dX11_clause_81 (by decide) ?_
        refine J_icmp_ge (pc := 82) (tgt := 94) dX11_clause_82 (by decide) (fun c82 => absurd c82 (by decide)) (fun c82 => ?_)
        refine J_aload_n (pc := 85) dX11_clause_85 rfl ?_
        refine J_getr (pc := 86) dX11_clause_86 kc11 fl_X11_20 rfl ?_
        refine J_iload_n (pc := 89) dX11_clause_89 rfl ?_
        refine J_il (pc := 90) dX11_clause_90 (by first | rfl | assumption) (rfl : (0 : Int32) = nI 0) ⟨by first | decide | omega, by decide⟩ ?_
        refine J_t1 (y := nI d.1.length) e0 ?_
        refine J_goto (pc := 91) (tgt := 95) dX11_clause_91 (by decide) ?_
        refine J_istore_n (pc := 95) dX11_clause_95 (by decide) rfl ?_
        refine J_iload_n (pc := 96) dX11_clause_96 rfl ?_
        refine J_tableIn (pc := 97) (off := 27) (tgt := 124) dX11_clause_97 (by decide) (by decide) (by decide) (by decide) ?_
        refine J_aload_n (pc := 124) dX11_clause_124 rfl ?_
        refine J_getr (pc := 125) dX11_clause_125 kc11 fl_X11_26 rfl ?_
        refine J_iload_n (pc := 128) dX11_clause_128 rfl ?_
        refine J_aload_n (pc := 129) dX11_clause_129 rfl ?_
        refine J_iconst (pc := 130) (v := 0) dX11_clause_130 (by decide) ?_
        refine J_bipush (pc := 131) (v := 15) dX11_clause_131 (by decide) ?_
        refine J_cvr (pc := 133) (N := mX11_number) dX11_clause_133 ml_X11_175 cf_X11_number cv_X11_number (r_X11_number (S := (sF Y 59 7 (nI (cl + 1)))) (t := (pwe cc n b, 0, h)) (lo := 0) (hi := 16) hx0 p0 rfl rfl (by decide) (by decide)) rfl rfl (Nat.le_of_ble_eq_true rfl) (by decide) (rv_of (ci := 11) rfl rfl rfl) ?_
        refine J_is (pc := 136) dX11_clause_136 (by first | rfl | assumption) rfl ⟨by first | decide | omega, by decide⟩ ?_
        refine J_cg2 (S' := ps (sA (sF Y 59 7 (nI (cl + 1))) 64 d.1.length (nI (pnum cc n 0 16 (pwe cc n b, 0, h)).1)) (pnum cc n 0 16 (pwe cc n b, 0, h)).2) rfl ?_
        refine J_goto (pc := 137) (tgt := 272) dX11_clause_137 (by decide) ?_
        refine J_iload_n (pc := 272) dX11_clause_272 rfl ?_
        refine J_iconst (pc := 273) (v := 3) dX11_clause_273 (by decide) ?_
        refine J_icmp_ge (pc := 274) (tgt := 298) dX11_clause_274 (by decide) (fun c274 => absurd c274 (by decide)) (fun c274 => ?_)
        refine J_aload_n (pc := 277) dX11_clause_277 rfl ?_
        refine J_getr (pc := 278) dX11_clause_278 kc11 fl_X11_20 rfl ?_
        refine J_iload_n (pc := 281) dX11_clause_281 rfl ?_
        refine J_dup2 (pc := 282) dX11_clause_282 rfl rfl ?_
        refine J_il (pc := 283) dX11_clause_283 (by first | rfl | assumption) (rfl : (0 : Int32) = nI 0) ⟨by first | decide | omega, by decide⟩ ?_
        refine J_t1 (y := nI d.1.length) (show sa (sA (sF Y 59 7 (nI (cl + 1))) 64 d.1.length (nI (pnum cc n 0 16 (pwe cc n b, 0, h)).1)) 62 0 = nI d.1.length by rw [sa_o (by decide)]; exact e0) ?_
        refine J_aload_n (pc := 284) dX11_clause_284 rfl ?_
        refine J_geti (pc := 285) dX11_clause_285 kc11 fl_X11_119 rfl ?_
        refine J_if_ne (pc := 288) (tgt := 295) dX11_clause_288 (by decide) (fun c288 => absurd (show nI (pnum cc n 0 16 (pwe cc n b, 0, h)).2.2.1 = 0 by rw [qn]; rfl) c288) (fun c288 => ?_)
        refine J_iconst (pc := 291) (v := 1) dX11_clause_291 (by decide) ?_
        refine J_goto (pc := 292) (tgt := 296) dX11_clause_292 (by decide) ?_
        refine J_iadd (pc := 296) dX11_clause_296 ?_
        refine J_t1 (nI_1 d.1.length) ?_
        refine J_is (pc := 297) dX11_clause_297 (by first | rfl | assumption) (rfl : (0 : Int32) = nI 0) ⟨by first | decide | omega, by decide⟩ ?_
        refine J_cg2 (S' := ps (sA (sA (sF Y 59 7 (nI (cl + 1))) 64 d.1.length (nI (pnum cc n 0 16 (pwe cc n b, 0, h)).1)) 62 0 (nI (d.1.length + 1))) (pnum cc n 0 16 (pwe cc n b, 0, h)).2) rfl ?_
        refine J_aload_n (pc := 298) dX11_clause_298 rfl ?_
        refine J_bipush (pc := 299) (v := 59) dX11_clause_299 (by decide) ?_
        refine J_st (st' := [.int (nI 59), .ref 59]) rfl ?_
        refine J_cvv (pc := 301) (N := mX11_sign) dX11_clause_301 ml_X11_179 cf_X11_sign cv_X11_sign (r_X11_sign (S := (sA (sA (sF Y 59 7 (nI (cl + 1))) 64 d.1.length (nI (pnum cc n 0 16 (pwe cc n b, 0, h)).1)) 62 0 (nI (d.1.length + 1)))) (t := (pnum cc n 0 16 (pwe cc n b, 0, h)).2) (c := 59) (HO_TX hoF hx) pF (by decide)) rfl rfl (Nat.le_of_ble_eq_true rfl) (by decide) (rv_of (ci := 11) rfl rfl rfl) ?_
        exact J_ret (pc := 304) rfl rfl dX11_clause_304 (hQ _ ⟨(sA (sA (sF Y 59 7 (nI (cl + 1))) 64 d.1.length (nI (pnum cc n 0 16 (pwe cc n b, 0, h)).1)) 62 0 (nI (d.1.length + 1))), by rw [hE]; rfl, hoF, fun _ => by rw [hE]; exact ⟨HM_0 (HM_F hM') hlt _, rfl⟩⟩)
      · have hoF : HO S (sA (sA (sF Y 59 7 (nI (cl + 1))) 64 d.1.length (nI (pnum cc n 0 16 (pwe cc n b, 0, h)).1)) 62 0 (nI d.1.length + 0)) := HO_A hoY rfl
        refine J_iload_n (pc := 5) dX11_clause_5 rfl ?_
        refine J_iconst (pc := 6) (v := -1) dX11_clause_6 (by decide) ?_
        refine J_icmp_ne (pc := 7) (tgt := 22) dX11_clause_7 (by decide) (fun c7 => ?_) (fun c7 => absurd c7 (by decide))
        refine J_aload_n (pc := 22) dX11_clause_22 rfl ?_
        refine J_geti (pc := 23) dX11_clause_23 kc11 fl_X11_159 rfl ?_
        refine J_t1 hc7 ?_
        refine J_bipush (pc := 26) (v := 60) dX11_clause_26 (by decide) ?_
        refine J_icmp_eq (pc := 28) (tgt := 49) dX11_clause_28 (by decide) (fun c28 => absurd c28 (fun z => c60 ((nI_eq (b := 60) (by omega) (by decide)).mp z))) (fun c28 => ?_)
        refine J_iload_n (pc := 31) dX11_clause_31 rfl ?_
        refine J_iconst (pc := 32) (v := 3) dX11_clause_32 (by decide) ?_
        refine J_icmp_ge (pc := 33) (tgt := 58) dX11_clause_33 (by decide) (fun c33 => absurd c33 (by decide)) (fun c33 => ?_)
        refine J_aload_n (pc := 36) dX11_clause_36 rfl ?_
        refine J_getr (pc := 37) dX11_clause_37 kc11 fl_X11_20 rfl ?_
        refine J_iload_n (pc := 40) dX11_clause_40 rfl ?_
        refine J_il (pc := 41) dX11_clause_41 (by first | rfl | assumption) (rfl : (0 : Int32) = nI 0) ⟨by first | decide | omega, by decide⟩ ?_
        refine J_t1 (y := nI d.1.length) e0 ?_
        refine J_iload_n (pc := 42) dX11_clause_42 rfl ?_
        refine J_st (st' := [.int (nI 0), .int (nI d.1.length)]) rfl ?_
        refine J_csr (pc := 43) (N := mX11_mostOf) dX11_clause_43 ml_X11_172 cf_X11_mostOf cs_X11_mostOf (r_X11_mostOf (S := ps Y (b, 0, h)) (k := 0) (by decide)) rfl rfl (Nat.le_of_ble_eq_true rfl) (by decide) ?_
        refine J_t1 (y := 8) rfl ?_
        refine J_icmp_ne (pc := 46) (tgt := 58) dX11_clause_46 (by decide) (fun c46 => ?_) (fun c46 => absurd c46 (fun z => qf ((nI_eq (b := 8) (by omega) (by decide)).mp z)))
        refine J_aload_n (pc := 58) dX11_clause_58 rfl ?_
        refine J_geti (pc := 59) dX11_clause_59 kc11 fl_X11_119 rfl ?_
        refine J_if_eq (pc := 62) (tgt := 66) dX11_clause_62 (by decide) (fun c62 => ?_) (fun c62 => absurd (show nI 0 = 0 from rfl) c62)
        refine J_aload_n (pc := 66) dX11_clause_66 rfl ?_
        refine J_cvv (pc := 67) (N := mX11_skipWord) dX11_clause_67 ml_X11_156 cf_X11_skipWord cv_X11_skipWord (r_X11_skipWord (S := Y) (t := (b, 0, h)) hxy hbl) rfl rfl (Nat.le_of_ble_eq_true rfl) (by decide) (rv_of (ci := 11) rfl rfl rfl) ?_
        refine J_aload_n (pc := 70) dX11_clause_70 rfl ?_
        refine J_dup (pc := 71) dX11_clause_71 rfl ?_
        refine J_geti (pc := 72) dX11_clause_72 kc11 fl_X11_159 rfl ?_
        refine J_t1 (y := nI cl) hc7 ?_
        refine J_iconst (pc := 75) (v := 1) dX11_clause_75 (by decide) ?_
        refine J_iadd (pc := 76) dX11_clause_76 ?_
        refine J_t1 (nI_1 cl) ?_
        refine J_puti (pc := 77) dX11_clause_77 kc11 fl_X11_159 rfl ⟨rfl, rfl⟩ ?_
        refine J_cg2 (ps_sF Y _ (by decide) (by decide) (by decide)) ?_
        refine J_iload_n (pc := 80) dX11_clause_80 rfl ?_
        refine J_iconst (pc := 81) (v := 3) dX11_clause_81 (by decide) ?_
        refine J_icmp_ge (pc := 82) (tgt := 94) dX11_clause_82 (by decide) (fun c82 => absurd c82 (by decide)) (fun c82 => ?_)
        refine J_aload_n (pc := 85) dX11_clause_85 rfl ?_
        refine J_getr (pc := 86) dX11_clause_86 kc11 fl_X11_20 rfl ?_
        refine J_iload_n (pc := 89) dX11_clause_89 rfl ?_
        refine J_il (pc := 90) dX11_clause_90 (by first | rfl | assumption) (rfl : (0 : Int32) = nI 0) ⟨by first | decide | omega, by decide⟩ ?_
        refine J_t1 (y := nI d.1.length) e0 ?_
        refine J_goto (pc := 91) (tgt := 95) dX11_clause_91 (by decide) ?_
        refine J_istore_n (pc := 95) dX11_clause_95 (by decide) rfl ?_
        refine J_iload_n (pc := 96) dX11_clause_96 rfl ?_
        refine J_tableIn (pc := 97) (off := 27) (tgt := 124) dX11_clause_97 (by decide) (by decide) (by decide) (by decide) ?_
        refine J_aload_n (pc := 124) dX11_clause_124 rfl ?_
        refine J_getr (pc := 125) dX11_clause_125 kc11 fl_X11_26 rfl ?_
        refine J_iload_n (pc := 128) dX11_clause_128 rfl ?_
        refine J_aload_n (pc := 129) dX11_clause_129 rfl ?_
        refine J_iconst (pc := 130) (v := 0) dX11_clause_130 (by decide) ?_
        refine J_bipush (pc := 131) (v := 15) dX11_clause_131 (by decide) ?_
        refine J_cvr (pc := 133) (N := mX11_number) dX11_clause_133 ml_X11_175 cf_X11_number cv_X11_number (r_X11_number (S := (sF Y 59 7 (nI (cl + 1)))) (t := (pwe cc n b, 0, h)) (lo := 0) (hi := 16) hx0 p0 rfl rfl (by decide) (by decide)) rfl rfl (Nat.le_of_ble_eq_true rfl) (by decide) (rv_of (ci := 11) rfl rfl rfl) ?_
        refine J_is (pc := 136) dX11_clause_136 (by first | rfl | assumption) rfl ⟨by first | decide | omega, by decide⟩ ?_
        refine J_cg2 (S' := ps (sA (sF Y 59 7 (nI (cl + 1))) 64 d.1.length (nI (pnum cc n 0 16 (pwe cc n b, 0, h)).1)) (pnum cc n 0 16 (pwe cc n b, 0, h)).2) rfl ?_
        refine J_goto (pc := 137) (tgt := 272) dX11_clause_137 (by decide) ?_
        refine J_iload_n (pc := 272) dX11_clause_272 rfl ?_
        refine J_iconst (pc := 273) (v := 3) dX11_clause_273 (by decide) ?_
        refine J_icmp_ge (pc := 274) (tgt := 298) dX11_clause_274 (by decide) (fun c274 => absurd c274 (by decide)) (fun c274 => ?_)
        refine J_aload_n (pc := 277) dX11_clause_277 rfl ?_
        refine J_getr (pc := 278) dX11_clause_278 kc11 fl_X11_20 rfl ?_
        refine J_iload_n (pc := 281) dX11_clause_281 rfl ?_
        refine J_dup2 (pc := 282) dX11_clause_282 rfl rfl ?_
        refine J_il (pc := 283) dX11_clause_283 (by first | rfl | assumption) (rfl : (0 : Int32) = nI 0) ⟨by first | decide | omega, by decide⟩ ?_
        refine J_t1 (y := nI d.1.length) (show sa (sA (sF Y 59 7 (nI (cl + 1))) 64 d.1.length (nI (pnum cc n 0 16 (pwe cc n b, 0, h)).1)) 62 0 = nI d.1.length by rw [sa_o (by decide)]; exact e0) ?_
        refine J_aload_n (pc := 284) dX11_clause_284 rfl ?_
        refine J_geti (pc := 285) dX11_clause_285 kc11 fl_X11_119 rfl ?_
        refine J_if_ne (pc := 288) (tgt := 295) dX11_clause_288 (by decide) (fun c288 => ?_) (fun c288 => absurd c288 (fun z => qn ((nI_z pF.2.1).mp z)))
        refine J_iconst (pc := 295) (v := 0) dX11_clause_295 (by decide) ?_
        refine J_iadd (pc := 296) dX11_clause_296 ?_
        refine J_is (pc := 297) dX11_clause_297 (by first | rfl | assumption) (rfl : (0 : Int32) = nI 0) ⟨by first | decide | omega, by decide⟩ ?_
        refine J_cg2 (S' := ps (sA (sA (sF Y 59 7 (nI (cl + 1))) 64 d.1.length (nI (pnum cc n 0 16 (pwe cc n b, 0, h)).1)) 62 0 (nI d.1.length + 0)) (pnum cc n 0 16 (pwe cc n b, 0, h)).2) rfl ?_
        refine J_aload_n (pc := 298) dX11_clause_298 rfl ?_
        refine J_bipush (pc := 299) (v := 59) dX11_clause_299 (by decide) ?_
        refine J_st (st' := [.int (nI 59), .ref 59]) rfl ?_
        refine J_cvv (pc := 301) (N := mX11_sign) dX11_clause_301 ml_X11_179 cf_X11_sign cv_X11_sign (r_X11_sign (S := (sA (sA (sF Y 59 7 (nI (cl + 1))) 64 d.1.length (nI (pnum cc n 0 16 (pwe cc n b, 0, h)).1)) 62 0 (nI d.1.length + 0))) (t := (pnum cc n 0 16 (pwe cc n b, 0, h)).2) (c := 59) (HO_TX hoF hx) pF (by decide)) rfl rfl (Nat.le_of_ble_eq_true rfl) (by decide) (rv_of (ci := 11) rfl rfl rfl) ?_
        exact J_ret (pc := 304) rfl rfl dX11_clause_304 (hQ _ ⟨(sA (sA (sF Y 59 7 (nI (cl + 1))) 64 d.1.length (nI (pnum cc n 0 16 (pwe cc n b, 0, h)).1)) 62 0 (nI d.1.length + 0)), by rw [hE]; rfl, hoF, fun z => by rw [hE] at z; exact absurd (psg_ok (show (psg cc n 59 (pnum cc n 0 16 (pwe cc n b, 0, h)).2).2.1 = 0 from z)).1 qn⟩)
set_option maxHeartbeats 4000000 in
theorem cla_1 {g : Gp} {n : Nat} {cc : Nat → Nat} {S Y : Sx} {a b h cl : Nat} {d : HD} (hx : TX S n cc) (hO : HO S Y) (hM : HM Y d) (hc7 : sf Y 59 7 = nI cl) (hcl60 : cl ≤ 60) (ha : a ≤ n) (hh : h ≤ n) (hb : pbl cc n a = b) (hw : wix cc n b wHou 0 = some 1) {sz : Nat} {Q : Po} (hQ : ∀ X, (fun X => ∃ Y', X = ps Y' (hcl cc n ((a, 0, h), cl, d)).1 ∧ HO S Y' ∧ ((hcl cc n ((a, 0, h), cl, d)).1.2.1 = 0 → HM Y' (hcl cc n ((a, 0, h), cl, d)).2.2 ∧ sf Y' 59 7 = nI (hcl cc n ((a, 0, h), cl, d)).2.1)) X → Q (.inl none) (hs X) sz) : J g mX11_clause 6 [] 5 [some (.ref 59), some (.int 1), none, none, none] [] (hs (ps Y (b, 0, h))) sz 0 0 Q := by
  have hM' := hM
  have hn6 := hx.2.1
  have hn9 := hx.2.2.2 n (Nat.le_refl _)
  have hxy := HO_TX hO hx
  have hbl : b ≤ n := by rw [← hb]; exact pbl_le cc ha
  obtain ⟨e0, e1, e2, l0, l1, l2, m7, m8, m9, m10⟩ := hM
  have hw3 := wix_3 (by decide) hw
  have hwl := pwe_le cc hbl
  have p0 : PO n ((pwe cc n b, 0, h) : PT) := ⟨hwl, by show 0 ≤ 3; omega, hh⟩
  have hE : hcl cc n ((a, 0, h), cl, d) = if cl = 60 ∨ hfull d 1 = true then ((b, 3, b), cl, d) else (psg cc n 59 (hck cc n 1 (pwe cc n b, 0, h) d).1, cl + 1, (hck cc n 1 (pwe cc n b, 0, h) d).2) := by unfold hcl; rw [hb, hw]
  by_cases c60 : cl = 60
  · have hc : cl = 60 ∨ hfull d 1 = true := Or.inl c60
    refine J_iload_n (pc := 5) dX11_clause_5 rfl ?_
    refine J_iconst (pc := 6) (v := -1) dX11_clause_6 (by decide) ?_
    refine J_icmp_ne (pc := 7) (tgt := 22) dX11_clause_7 (by decide) (fun c7 => ?_) (fun c7 => absurd c7 (by decide))
    refine J_aload_n (pc := 22) dX11_clause_22 rfl ?_
    refine J_geti (pc := 23) dX11_clause_23 kc11 fl_X11_159 rfl ?_
    refine J_t1 hc7 ?_
    refine J_bipush (pc := 26) (v := 60) dX11_clause_26 (by decide) ?_
    refine J_icmp_eq (pc := 28) (tgt := 49) dX11_clause_28 (by decide) (fun c28 => ?_) (fun c28 => absurd (show nI cl = 60 by rw [c60]; rfl) c28)
    refine J_aload_n (pc := 49) dX11_clause_49 rfl ?_
    refine J_iconst (pc := 50) (v := 3) dX11_clause_50 (by decide) ?_
    refine J_aload_n (pc := 51) dX11_clause_51 rfl ?_
    refine J_geti (pc := 52) dX11_clause_52 kc11 fl_X11_112 rfl ?_
    refine J_cvv (pc := 55) (N := mX11_wrong) dX11_clause_55 ml_X11_132 cf_X11_wrong cv_X11_wrong (r_wr (S := Y) (t := (b, 0, h)) (k := 3) (h := b) (show 0 ≤ 3 by decide) (by decide)) rfl rfl (Nat.le_of_ble_eq_true rfl) (by decide) (rv_of (ci := 11) rfl rfl rfl) ?_
    refine J_cg2 (S' := ps Y (b, 3, b)) (ps_same rfl) ?_
    refine J_aload_n (pc := 58) dX11_clause_58 rfl ?_
    refine J_geti (pc := 59) dX11_clause_59 kc11 fl_X11_119 rfl ?_
    refine J_if_eq (pc := 62) (tgt := 66) dX11_clause_62 (by decide) (fun c62 => absurd c62 (show ¬ nI 3 = 0 by decide)) (fun c62 => ?_)
    exact J_ret (pc := 65) rfl rfl dX11_clause_65 (hQ _ ⟨Y, by rw [hE, if_pos hc], hO, fun z => by rw [hE, if_pos hc] at z; exact absurd z (by show ¬ 3 = 0; omega)⟩)
  · by_cases qf : d.2.2.1.length = 10
    · have hc : cl = 60 ∨ hfull d 1 = true := Or.inr (by unfold hfull; rw [qf]; rfl)
      refine J_iload_n (pc := 5) dX11_clause_5 rfl ?_
      refine J_iconst (pc := 6) (v := -1) dX11_clause_6 (by decide) ?_
      refine J_icmp_ne (pc := 7) (tgt := 22) dX11_clause_7 (by decide) (fun c7 => ?_) (fun c7 => absurd c7 (by decide))
      refine J_aload_n (pc := 22) dX11_clause_22 rfl ?_
      refine J_geti (pc := 23) dX11_clause_23 kc11 fl_X11_159 rfl ?_
      refine J_t1 hc7 ?_
      refine J_bipush (pc := 26) (v := 60) dX11_clause_26 (by decide) ?_
      refine J_icmp_eq (pc := 28) (tgt := 49) dX11_clause_28 (by decide) (fun c28 => absurd c28 (fun z => c60 ((nI_eq (b := 60) (by omega) (by decide)).mp z))) (fun c28 => ?_)
      refine J_iload_n (pc := 31) dX11_clause_31 rfl ?_
      refine J_iconst (pc := 32) (v := 3) dX11_clause_32 (by decide) ?_
      refine J_icmp_ge (pc := 33) (tgt := 58) dX11_clause_33 (by decide) (fun c33 => absurd c33 (by decide)) (fun c33 => ?_)
      refine J_aload_n (pc := 36) dX11_clause_36 rfl ?_
      refine J_getr (pc := 37) dX11_clause_37 kc11 fl_X11_20 rfl ?_
      refine J_iload_n (pc := 40) dX11_clause_40 rfl ?_
      refine J_il (pc := 41) dX11_clause_41 (by first | rfl | assumption) (rfl : (1 : Int32) = nI 1) ⟨by first | decide | omega, by decide⟩ ?_
      refine J_t1 (y := nI d.2.2.1.length) e1 ?_
      refine J_iload_n (pc := 42) dX11_clause_42 rfl ?_
      refine J_st (st' := [.int (nI 1), .int (nI d.2.2.1.length)]) rfl ?_
      refine J_csr (pc := 43) (N := mX11_mostOf) dX11_clause_43 ml_X11_172 cf_X11_mostOf cs_X11_mostOf (r_X11_mostOf (S := ps Y (b, 0, h)) (k := 1) (by decide)) rfl rfl (Nat.le_of_ble_eq_true rfl) (by decide) ?_
      refine J_t1 (y := 10) rfl ?_
      refine J_icmp_ne (pc := 46) (tgt := 58) dX11_clause_46 (by decide) (fun c46 => absurd (show nI d.2.2.1.length = 10 by rw [qf]; rfl) c46) (fun c46 => ?_)
      refine J_aload_n (pc := 49) dX11_clause_49 rfl ?_
      refine J_iconst (pc := 50) (v := 3) dX11_clause_50 (by decide) ?_
      refine J_aload_n (pc := 51) dX11_clause_51 rfl ?_
      refine J_geti (pc := 52) dX11_clause_52 kc11 fl_X11_112 rfl ?_
      refine J_cvv (pc := 55) (N := mX11_wrong) dX11_clause_55 ml_X11_132 cf_X11_wrong cv_X11_wrong (r_wr (S := Y) (t := (b, 0, h)) (k := 3) (h := b) (show 0 ≤ 3 by decide) (by decide)) rfl rfl (Nat.le_of_ble_eq_true rfl) (by decide) (rv_of (ci := 11) rfl rfl rfl) ?_
      refine J_cg2 (S' := ps Y (b, 3, b)) (ps_same rfl) ?_
      refine J_aload_n (pc := 58) dX11_clause_58 rfl ?_
      refine J_geti (pc := 59) dX11_clause_59 kc11 fl_X11_119 rfl ?_
      refine J_if_eq (pc := 62) (tgt := 66) dX11_clause_62 (by decide) (fun c62 => absurd c62 (show ¬ nI 3 = 0 by decide)) (fun c62 => ?_)
      exact J_ret (pc := 65) rfl rfl dX11_clause_65 (hQ _ ⟨Y, by rw [hE, if_pos hc], hO, fun z => by rw [hE, if_pos hc] at z; exact absurd z (by show ¬ 3 = 0; omega)⟩)
    · have hc : ¬ (cl = 60 ∨ hfull d 1 = true) := by
        intro z
        rcases z with z | z
        · exact c60 z
        · unfold hfull at z
          simp at z
          exact qf z
      rw [if_neg hc] at hE
      have hlt : d.2.2.1.length < 10 := by omega
      have hY0 : HO S (sF Y 59 7 (nI (cl + 1))) := HO_F hO
      have hx0 := HO_TX hY0 hx
      have hoA : HO S (sA (sF Y 59 7 (nI (cl + 1))) (69 + d.2.2.1.length) 0 (nI (pnum cc n 0 d.1.length (pwe cc n b, 0, h)).1)) := HO_A hY0 (hA69 (by omega))
      have hoB : HO S (sA (sA (sF Y 59 7 (nI (cl + 1))) (69 + d.2.2.1.length) 0 (nI (pnum cc n 0 d.1.length (pwe cc n b, 0, h)).1)) (69 + d.2.2.1.length) 1 (nI (pnum cc n 0 6 (pnum cc n 0 d.1.length (pwe cc n b, 0, h)).2).1)) := HO_A hoA (hA69 (by omega))
      have hoY : HO S (sA (sA (sA (sF Y 59 7 (nI (cl + 1))) (69 + d.2.2.1.length) 0 (nI (pnum cc n 0 d.1.length (pwe cc n b, 0, h)).1)) (69 + d.2.2.1.length) 1 (nI (pnum cc n 0 6 (pnum cc n 0 d.1.length (pwe cc n b, 0, h)).2).1)) (69 + d.2.2.1.length) 2 (nI (pnum cc n 1 31 (pnum cc n 0 6 (pnum cc n 0 d.1.length (pwe cc n b, 0, h)).2).2).1)) := HO_A hoB (hA69 (by omega))
      have pA : PO n (pnum cc n 0 d.1.length (pwe cc n b, 0, h)).2 := PO_num hx p0 0 _
      have pB : PO n (pnum cc n 0 6 (pnum cc n 0 d.1.length (pwe cc n b, 0, h)).2).2 := PO_num hx pA 0 6
      have pF : PO n (pnum cc n 1 31 (pnum cc n 0 6 (pnum cc n 0 d.1.length (pwe cc n b, 0, h)).2).2).2 := PO_num hx pB 1 31
      by_cases qn : (pnum cc n 1 31 (pnum cc n 0 6 (pnum cc n 0 d.1.length (pwe cc n b, 0, h)).2).2).2.2.1 = 0
      · have hoF : HO S (sA (sA (sA (sA (sF Y 59 7 (nI (cl + 1))) (69 + d.2.2.1.length) 0 (nI (pnum cc n 0 d.1.length (pwe cc n b, 0, h)).1)) (69 + d.2.2.1.length) 1 (nI (pnum cc n 0 6 (pnum cc n 0 d.1.length (pwe cc n b, 0, h)).2).1)) (69 + d.2.2.1.length) 2 (nI (pnum cc n 1 31 (pnum cc n 0 6 (pnum cc n 0 d.1.length (pwe cc n b, 0, h)).2).2).1)) 62 1 (nI (d.2.2.1.length + 1))) := HO_A hoY rfl
        refine J_iload_n (pc := 5) dX11_clause_5 rfl ?_
        refine J_iconst (pc := 6) (v := -1) dX11_clause_6 (by decide) ?_
        refine J_icmp_ne (pc := 7) (tgt := 22) dX11_clause_7 (by decide) (fun c7 => ?_) (fun c7 => absurd c7 (by decide))
        refine J_aload_n (pc := 22) dX11_clause_22 rfl ?_
        refine J_geti (pc := 23) dX11_clause_23 kc11 fl_X11_159 rfl ?_
        refine J_t1 hc7 ?_
        refine J_bipush (pc := 26) (v := 60) dX11_clause_26 (by decide) ?_
        refine J_icmp_eq (pc := 28) (tgt := 49) dX11_clause_28 (by decide) (fun c28 => absurd c28 (fun z => c60 ((nI_eq (b := 60) (by omega) (by decide)).mp z))) (fun c28 => ?_)
        refine J_iload_n (pc := 31) dX11_clause_31 rfl ?_
        refine J_iconst (pc := 32) (v := 3) dX11_clause_32 (by decide) ?_
        refine J_icmp_ge (pc := 33) (tgt := 58) dX11_clause_33 (by decide) (fun c33 => absurd c33 (by decide)) (fun c33 => ?_)
        refine J_aload_n (pc := 36) dX11_clause_36 rfl ?_
        refine J_getr (pc := 37) dX11_clause_37 kc11 fl_X11_20 rfl ?_
        refine J_iload_n (pc := 40) dX11_clause_40 rfl ?_
        refine J_il (pc := 41) dX11_clause_41 (by first | rfl | assumption) (rfl : (1 : Int32) = nI 1) ⟨by first | decide | omega, by decide⟩ ?_
        refine J_t1 (y := nI d.2.2.1.length) e1 ?_
        refine J_iload_n (pc := 42) dX11_clause_42 rfl ?_
        refine J_st (st' := [.int (nI 1), .int (nI d.2.2.1.length)]) rfl ?_
        refine J_csr (pc := 43) (N := mX11_mostOf) dX11_clause_43 ml_X11_172 cf_X11_mostOf cs_X11_mostOf (r_X11_mostOf (S := ps Y (b, 0, h)) (k := 1) (by decide)) rfl rfl (Nat.le_of_ble_eq_true rfl) (by decide) ?_
        refine J_t1 (y := 10) rfl ?_
        refine J_icmp_ne (pc := 46) (tgt := 58) dX11_clause_46 (by decide) (fun c46 => ?_) (fun c46 => absurd c46 (fun z => qf ((nI_eq (b := 10) (by omega) (by decide)).mp z)))
        refine J_aload_n (pc := 58) dX11_clause_58 rfl ?_
        refine J_geti (pc := 59) dX11_clause_59 kc11 fl_X11_119 rfl ?_
        refine J_if_eq (pc := 62) (tgt := 66) dX11_clause_62 (by decide) (fun c62 => ?_) (fun c62 => absurd (show nI 0 = 0 from rfl) c62)
        refine J_aload_n (pc := 66) dX11_clause_66 rfl ?_
        refine J_cvv (pc := 67) (N := mX11_skipWord) dX11_clause_67 ml_X11_156 cf_X11_skipWord cv_X11_skipWord (r_X11_skipWord (S := Y) (t := (b, 0, h)) hxy hbl) rfl rfl (Nat.le_of_ble_eq_true rfl) (by decide) (rv_of (ci := 11) rfl rfl rfl) ?_
        refine J_aload_n (pc := 70) dX11_clause_70 rfl ?_
        refine J_dup (pc := 71) dX11_clause_71 rfl ?_
        refine J_geti (pc := 72) dX11_clause_72 kc11 fl_X11_159 rfl ?_
        refine J_t1 (y := nI cl) hc7 ?_
        refine J_iconst (pc := 75) (v := 1) dX11_clause_75 (by decide) ?_
        refine J_iadd (pc := 76) dX11_clause_76 ?_
        refine J_t1 (nI_1 cl) ?_
        refine J_puti (pc := 77) dX11_clause_77 kc11 fl_X11_159 rfl ⟨rfl, rfl⟩ ?_
        refine J_cg2 (ps_sF Y _ (by decide) (by decide) (by decide)) ?_
        refine J_iload_n (pc := 80) dX11_clause_80 rfl ?_
        refine J_iconst (pc := 81) (v := 3) dX11_clause_81 (by decide) ?_
        refine J_icmp_ge (pc := 82) (tgt := 94) dX11_clause_82 (by decide) (fun c82 => absurd c82 (by decide)) (fun c82 => ?_)
        refine J_aload_n (pc := 85) dX11_clause_85 rfl ?_
        refine J_getr (pc := 86) dX11_clause_86 kc11 fl_X11_20 rfl ?_
        refine J_iload_n (pc := 89) dX11_clause_89 rfl ?_
        refine J_il (pc := 90) dX11_clause_90 (by first | rfl | assumption) (rfl : (1 : Int32) = nI 1) ⟨by first | decide | omega, by decide⟩ ?_
        refine J_t1 (y := nI d.2.2.1.length) e1 ?_
        refine J_goto (pc := 91) (tgt := 95) dX11_clause_91 (by decide) ?_
        refine J_istore_n (pc := 95) dX11_clause_95 (by decide) rfl ?_
        refine J_iload_n (pc := 96) dX11_clause_96 rfl ?_
        refine J_tableIn (pc := 97) (off := 43) (tgt := 140) dX11_clause_97 (by decide) (by decide) (by decide) (by decide) ?_
        refine J_aload_n (pc := 140) dX11_clause_140 rfl ?_
        refine J_getr (pc := 141) dX11_clause_141 kc11 fl_X11_40 rfl ?_
        refine J_iload_n (pc := 144) dX11_clause_144 rfl ?_
        refine J_ar1 (pc := 145) dX11_clause_145 rfl rfl ⟨by first | decide | omega, by decide⟩ ?_
        refine J_iconst (pc := 146) (v := 0) dX11_clause_146 (by decide) ?_
        refine J_aload_n (pc := 147) dX11_clause_147 rfl ?_
        refine J_iconst (pc := 148) (v := 0) dX11_clause_148 (by decide) ?_
        refine J_aload_n (pc := 149) dX11_clause_149 rfl ?_
        refine J_getr (pc := 150) dX11_clause_150 kc11 fl_X11_20 rfl ?_
        refine J_iconst (pc := 153) (v := 0) dX11_clause_153 (by decide) ?_
        refine J_il (pc := 154) dX11_clause_154 (by first | rfl | assumption) (rfl : (0 : Int32) = nI 0) ⟨by first | decide | omega, by decide⟩ ?_
        refine J_t1 (y := nI d.1.length) e0 ?_
        refine J_iconst (pc := 155) (v := 1) dX11_clause_155 (by decide) ?_
        refine J_isub (pc := 156) dX11_clause_156 ?_
        refine J_cvr (pc := 157) (N := mX11_number) dX11_clause_157 ml_X11_175 cf_X11_number cv_X11_number (r_X11_number (S := (sF Y 59 7 (nI (cl + 1)))) (t := (pwe cc n b, 0, h)) (lo := 0) (hi := d.1.length) hx0 p0 rfl rfl (by decide) (by omega)) rfl rfl (Nat.le_of_ble_eq_true rfl) (by decide) (rv_of (ci := 11) rfl rfl rfl) ?_
        refine J_is (pc := 160) dX11_clause_160 (lay_readRelic (by omega)) (rfl : (0 : Int32) = nI 0) ⟨by first | decide | omega, by decide⟩ ?_
        refine J_cg2 (S' := ps (sA (sF Y 59 7 (nI (cl + 1))) (69 + d.2.2.1.length) 0 (nI (pnum cc n 0 d.1.length (pwe cc n b, 0, h)).1)) (pnum cc n 0 d.1.length (pwe cc n b, 0, h)).2) rfl ?_
        refine J_aload_n (pc := 161) dX11_clause_161 rfl ?_
        refine J_getr (pc := 162) dX11_clause_162 kc11 fl_X11_40 rfl ?_
        refine J_iload_n (pc := 165) dX11_clause_165 rfl ?_
        refine J_ar1 (pc := 166) dX11_clause_166 rfl rfl ⟨by first | decide | omega, by decide⟩ ?_
        refine J_iconst (pc := 167) (v := 1) dX11_clause_167 (by decide) ?_
        refine J_aload_n (pc := 168) dX11_clause_168 rfl ?_
        refine J_iconst (pc := 169) (v := 0) dX11_clause_169 (by decide) ?_
        refine J_iconst (pc := 170) (v := 5) dX11_clause_170 (by decide) ?_
        refine J_cvr (pc := 171) (N := mX11_number) dX11_clause_171 ml_X11_175 cf_X11_number cv_X11_number (r_X11_number (S := (sA (sF Y 59 7 (nI (cl + 1))) (69 + d.2.2.1.length) 0 (nI (pnum cc n 0 d.1.length (pwe cc n b, 0, h)).1))) (t := (pnum cc n 0 d.1.length (pwe cc n b, 0, h)).2) (lo := 0) (hi := 6) (HO_TX hoA hx) pA rfl rfl (by decide) (by decide)) rfl rfl (Nat.le_of_ble_eq_true rfl) (by decide) (rv_of (ci := 11) rfl rfl rfl) ?_
        refine J_is (pc := 174) dX11_clause_174 (lay_readRelic (by omega)) (rfl : (1 : Int32) = nI 1) ⟨by first | decide | omega, by decide⟩ ?_
        refine J_cg2 (S' := ps (sA (sA (sF Y 59 7 (nI (cl + 1))) (69 + d.2.2.1.length) 0 (nI (pnum cc n 0 d.1.length (pwe cc n b, 0, h)).1)) (69 + d.2.2.1.length) 1 (nI (pnum cc n 0 6 (pnum cc n 0 d.1.length (pwe cc n b, 0, h)).2).1)) (pnum cc n 0 6 (pnum cc n 0 d.1.length (pwe cc n b, 0, h)).2).2) rfl ?_
        refine J_aload_n (pc := 175) dX11_clause_175 rfl ?_
        refine J_getr (pc := 176) dX11_clause_176 kc11 fl_X11_40 rfl ?_
        refine J_iload_n (pc := 179) dX11_clause_179 rfl ?_
        refine J_ar1 (pc := 180) dX11_clause_180 rfl rfl ⟨by first | decide | omega, by decide⟩ ?_
        refine J_iconst (pc := 181) (v := 2) dX11_clause_181 (by decide) ?_
        refine J_aload_n (pc := 182) dX11_clause_182 rfl ?_
        refine J_iconst (pc := 183) (v := 1) dX11_clause_183 (by decide) ?_
        refine J_bipush (pc := 184) (v := 30) dX11_clause_184 (by decide) ?_
        refine J_cvr (pc := 186) (N := mX11_number) dX11_clause_186 ml_X11_175 cf_X11_number cv_X11_number (r_X11_number (S := (sA (sA (sF Y 59 7 (nI (cl + 1))) (69 + d.2.2.1.length) 0 (nI (pnum cc n 0 d.1.length (pwe cc n b, 0, h)).1)) (69 + d.2.2.1.length) 1 (nI (pnum cc n 0 6 (pnum cc n 0 d.1.length (pwe cc n b, 0, h)).2).1))) (t := (pnum cc n 0 6 (pnum cc n 0 d.1.length (pwe cc n b, 0, h)).2).2) (lo := 1) (hi := 31) (HO_TX hoB hx) pB rfl rfl (by decide) (by decide)) rfl rfl (Nat.le_of_ble_eq_true rfl) (by decide) (rv_of (ci := 11) rfl rfl rfl) ?_
        refine J_is (pc := 189) dX11_clause_189 (lay_readRelic (by omega)) (rfl : (2 : Int32) = nI 2) ⟨by first | decide | omega, by decide⟩ ?_
        refine J_cg2 (S' := ps (sA (sA (sA (sF Y 59 7 (nI (cl + 1))) (69 + d.2.2.1.length) 0 (nI (pnum cc n 0 d.1.length (pwe cc n b, 0, h)).1)) (69 + d.2.2.1.length) 1 (nI (pnum cc n 0 6 (pnum cc n 0 d.1.length (pwe cc n b, 0, h)).2).1)) (69 + d.2.2.1.length) 2 (nI (pnum cc n 1 31 (pnum cc n 0 6 (pnum cc n 0 d.1.length (pwe cc n b, 0, h)).2).2).1)) (pnum cc n 1 31 (pnum cc n 0 6 (pnum cc n 0 d.1.length (pwe cc n b, 0, h)).2).2).2) rfl ?_
        refine J_goto (pc := 190) (tgt := 272) dX11_clause_190 (by decide) ?_
        refine J_iload_n (pc := 272) dX11_clause_272 rfl ?_
        refine J_iconst (pc := 273) (v := 3) dX11_clause_273 (by decide) ?_
        refine J_icmp_ge (pc := 274) (tgt := 298) dX11_clause_274 (by decide) (fun c274 => absurd c274 (by decide)) (fun c274 => ?_)
        refine J_aload_n (pc := 277) dX11_clause_277 rfl ?_
        refine J_getr (pc := 278) dX11_clause_278 kc11 fl_X11_20 rfl ?_
        refine J_iload_n (pc := 281) dX11_clause_281 rfl ?_
        refine J_dup2 (pc := 282) dX11_clause_282 rfl rfl ?_
        refine J_il (pc := 283) dX11_clause_283 (by first | rfl | assumption) (rfl : (1 : Int32) = nI 1) ⟨by first | decide | omega, by decide⟩ ?_
        refine J_t1 (y := nI d.2.2.1.length) (show sa (sA (sA (sA (sF Y 59 7 (nI (cl + 1))) (69 + d.2.2.1.length) 0 (nI (pnum cc n 0 d.1.length (pwe cc n b, 0, h)).1)) (69 + d.2.2.1.length) 1 (nI (pnum cc n 0 6 (pnum cc n 0 d.1.length (pwe cc n b, 0, h)).2).1)) (69 + d.2.2.1.length) 2 (nI (pnum cc n 1 31 (pnum cc n 0 6 (pnum cc n 0 d.1.length (pwe cc n b, 0, h)).2).2).1)) 62 1 = nI d.2.2.1.length by rw [sa_o (by omega), sa_o (by omega), sa_o (by omega)]; exact e1) ?_
        refine J_aload_n (pc := 284) dX11_clause_284 rfl ?_
        refine J_geti (pc := 285) dX11_clause_285 kc11 fl_X11_119 rfl ?_
        refine J_if_ne (pc := 288) (tgt := 295) dX11_clause_288 (by decide) (fun c288 => absurd (show nI (pnum cc n 1 31 (pnum cc n 0 6 (pnum cc n 0 d.1.length (pwe cc n b, 0, h)).2).2).2.2.1 = 0 by rw [qn]; rfl) c288) (fun c288 => ?_)
        refine J_iconst (pc := 291) (v := 1) dX11_clause_291 (by decide) ?_
        refine J_goto (pc := 292) (tgt := 296) dX11_clause_292 (by decide) ?_
        refine J_iadd (pc := 296) dX11_clause_296 ?_
        refine J_t1 (nI_1 d.2.2.1.length) ?_
        refine J_is (pc := 297) dX11_clause_297 (by first | rfl | assumption) (rfl : (1 : Int32) = nI 1) ⟨by first | decide | omega, by decide⟩ ?_
        refine J_cg2 (S' := ps (sA (sA (sA (sA (sF Y 59 7 (nI (cl + 1))) (69 + d.2.2.1.length) 0 (nI (pnum cc n 0 d.1.length (pwe cc n b, 0, h)).1)) (69 + d.2.2.1.length) 1 (nI (pnum cc n 0 6 (pnum cc n 0 d.1.length (pwe cc n b, 0, h)).2).1)) (69 + d.2.2.1.length) 2 (nI (pnum cc n 1 31 (pnum cc n 0 6 (pnum cc n 0 d.1.length (pwe cc n b, 0, h)).2).2).1)) 62 1 (nI (d.2.2.1.length + 1))) (pnum cc n 1 31 (pnum cc n 0 6 (pnum cc n 0 d.1.length (pwe cc n b, 0, h)).2).2).2) rfl ?_
        refine J_aload_n (pc := 298) dX11_clause_298 rfl ?_
        refine J_bipush (pc := 299) (v := 59) dX11_clause_299 (by decide) ?_
        refine J_st (st' := [.int (nI 59), .ref 59]) rfl ?_
        refine J_cvv (pc := 301) (N := mX11_sign) dX11_clause_301 ml_X11_179 cf_X11_sign cv_X11_sign (r_X11_sign (S := (sA (sA (sA (sA (sF Y 59 7 (nI (cl + 1))) (69 + d.2.2.1.length) 0 (nI (pnum cc n 0 d.1.length (pwe cc n b, 0, h)).1)) (69 + d.2.2.1.length) 1 (nI (pnum cc n 0 6 (pnum cc n 0 d.1.length (pwe cc n b, 0, h)).2).1)) (69 + d.2.2.1.length) 2 (nI (pnum cc n 1 31 (pnum cc n 0 6 (pnum cc n 0 d.1.length (pwe cc n b, 0, h)).2).2).1)) 62 1 (nI (d.2.2.1.length + 1)))) (t := (pnum cc n 1 31 (pnum cc n 0 6 (pnum cc n 0 d.1.length (pwe cc n b, 0, h)).2).2).2) (c := 59) (HO_TX hoF hx) pF (by decide)) rfl rfl (Nat.le_of_ble_eq_true rfl) (by decide) (rv_of (ci := 11) rfl rfl rfl) ?_
        exact J_ret (pc := 304) rfl rfl dX11_clause_304 (hQ _ ⟨(sA (sA (sA (sA (sF Y 59 7 (nI (cl + 1))) (69 + d.2.2.1.length) 0 (nI (pnum cc n 0 d.1.length (pwe cc n b, 0, h)).1)) (69 + d.2.2.1.length) 1 (nI (pnum cc n 0 6 (pnum cc n 0 d.1.length (pwe cc n b, 0, h)).2).1)) (69 + d.2.2.1.length) 2 (nI (pnum cc n 1 31 (pnum cc n 0 6 (pnum cc n 0 d.1.length (pwe cc n b, 0, h)).2).2).1)) 62 1 (nI (d.2.2.1.length + 1))), by rw [hE]; rfl, hoF, fun _ => by rw [hE]; exact ⟨HM_1 (HM_F hM') hlt _ _ _, rfl⟩⟩)
      · have hoF : HO S (sA (sA (sA (sA (sF Y 59 7 (nI (cl + 1))) (69 + d.2.2.1.length) 0 (nI (pnum cc n 0 d.1.length (pwe cc n b, 0, h)).1)) (69 + d.2.2.1.length) 1 (nI (pnum cc n 0 6 (pnum cc n 0 d.1.length (pwe cc n b, 0, h)).2).1)) (69 + d.2.2.1.length) 2 (nI (pnum cc n 1 31 (pnum cc n 0 6 (pnum cc n 0 d.1.length (pwe cc n b, 0, h)).2).2).1)) 62 1 (nI d.2.2.1.length + 0)) := HO_A hoY rfl
        refine J_iload_n (pc := 5) dX11_clause_5 rfl ?_
        refine J_iconst (pc := 6) (v := -1) dX11_clause_6 (by decide) ?_
        refine J_icmp_ne (pc := 7) (tgt := 22) dX11_clause_7 (by decide) (fun c7 => ?_) (fun c7 => absurd c7 (by decide))
        refine J_aload_n (pc := 22) dX11_clause_22 rfl ?_
        refine J_geti (pc := 23) dX11_clause_23 kc11 fl_X11_159 rfl ?_
        refine J_t1 hc7 ?_
        refine J_bipush (pc := 26) (v := 60) dX11_clause_26 (by decide) ?_
        refine J_icmp_eq (pc := 28) (tgt := 49) dX11_clause_28 (by decide) (fun c28 => absurd c28 (fun z => c60 ((nI_eq (b := 60) (by omega) (by decide)).mp z))) (fun c28 => ?_)
        refine J_iload_n (pc := 31) dX11_clause_31 rfl ?_
        refine J_iconst (pc := 32) (v := 3) dX11_clause_32 (by decide) ?_
        refine J_icmp_ge (pc := 33) (tgt := 58) dX11_clause_33 (by decide) (fun c33 => absurd c33 (by decide)) (fun c33 => ?_)
        refine J_aload_n (pc := 36) dX11_clause_36 rfl ?_
        refine J_getr (pc := 37) dX11_clause_37 kc11 fl_X11_20 rfl ?_
        refine J_iload_n (pc := 40) dX11_clause_40 rfl ?_
        refine J_il (pc := 41) dX11_clause_41 (by first | rfl | assumption) (rfl : (1 : Int32) = nI 1) ⟨by first | decide | omega, by decide⟩ ?_
        refine J_t1 (y := nI d.2.2.1.length) e1 ?_
        refine J_iload_n (pc := 42) dX11_clause_42 rfl ?_
        refine J_st (st' := [.int (nI 1), .int (nI d.2.2.1.length)]) rfl ?_
        refine J_csr (pc := 43) (N := mX11_mostOf) dX11_clause_43 ml_X11_172 cf_X11_mostOf cs_X11_mostOf (r_X11_mostOf (S := ps Y (b, 0, h)) (k := 1) (by decide)) rfl rfl (Nat.le_of_ble_eq_true rfl) (by decide) ?_
        refine J_t1 (y := 10) rfl ?_
        refine J_icmp_ne (pc := 46) (tgt := 58) dX11_clause_46 (by decide) (fun c46 => ?_) (fun c46 => absurd c46 (fun z => qf ((nI_eq (b := 10) (by omega) (by decide)).mp z)))
        refine J_aload_n (pc := 58) dX11_clause_58 rfl ?_
        refine J_geti (pc := 59) dX11_clause_59 kc11 fl_X11_119 rfl ?_
        refine J_if_eq (pc := 62) (tgt := 66) dX11_clause_62 (by decide) (fun c62 => ?_) (fun c62 => absurd (show nI 0 = 0 from rfl) c62)
        refine J_aload_n (pc := 66) dX11_clause_66 rfl ?_
        refine J_cvv (pc := 67) (N := mX11_skipWord) dX11_clause_67 ml_X11_156 cf_X11_skipWord cv_X11_skipWord (r_X11_skipWord (S := Y) (t := (b, 0, h)) hxy hbl) rfl rfl (Nat.le_of_ble_eq_true rfl) (by decide) (rv_of (ci := 11) rfl rfl rfl) ?_
        refine J_aload_n (pc := 70) dX11_clause_70 rfl ?_
        refine J_dup (pc := 71) dX11_clause_71 rfl ?_
        refine J_geti (pc := 72) dX11_clause_72 kc11 fl_X11_159 rfl ?_
        refine J_t1 (y := nI cl) hc7 ?_
        refine J_iconst (pc := 75) (v := 1) dX11_clause_75 (by decide) ?_
        refine J_iadd (pc := 76) dX11_clause_76 ?_
        refine J_t1 (nI_1 cl) ?_
        refine J_puti (pc := 77) dX11_clause_77 kc11 fl_X11_159 rfl ⟨rfl, rfl⟩ ?_
        refine J_cg2 (ps_sF Y _ (by decide) (by decide) (by decide)) ?_
        refine J_iload_n (pc := 80) dX11_clause_80 rfl ?_
        refine J_iconst (pc := 81) (v := 3) dX11_clause_81 (by decide) ?_
        refine J_icmp_ge (pc := 82) (tgt := 94) dX11_clause_82 (by decide) (fun c82 => absurd c82 (by decide)) (fun c82 => ?_)
        refine J_aload_n (pc := 85) dX11_clause_85 rfl ?_
        refine J_getr (pc := 86) dX11_clause_86 kc11 fl_X11_20 rfl ?_
        refine J_iload_n (pc := 89) dX11_clause_89 rfl ?_
        refine J_il (pc := 90) dX11_clause_90 (by first | rfl | assumption) (rfl : (1 : Int32) = nI 1) ⟨by first | decide | omega, by decide⟩ ?_
        refine J_t1 (y := nI d.2.2.1.length) e1 ?_
        refine J_goto (pc := 91) (tgt := 95) dX11_clause_91 (by decide) ?_
        refine J_istore_n (pc := 95) dX11_clause_95 (by decide) rfl ?_
        refine J_iload_n (pc := 96) dX11_clause_96 rfl ?_
        refine J_tableIn (pc := 97) (off := 43) (tgt := 140) dX11_clause_97 (by decide) (by decide) (by decide) (by decide) ?_
        refine J_aload_n (pc := 140) dX11_clause_140 rfl ?_
        refine J_getr (pc := 141) dX11_clause_141 kc11 fl_X11_40 rfl ?_
        refine J_iload_n (pc := 144) dX11_clause_144 rfl ?_
        refine J_ar1 (pc := 145) dX11_clause_145 rfl rfl ⟨by first | decide | omega, by decide⟩ ?_
        refine J_iconst (pc := 146) (v := 0) dX11_clause_146 (by decide) ?_
        refine J_aload_n (pc := 147) dX11_clause_147 rfl ?_
        refine J_iconst (pc := 148) (v := 0) dX11_clause_148 (by decide) ?_
        refine J_aload_n (pc := 149) dX11_clause_149 rfl ?_
        refine J_getr (pc := 150) dX11_clause_150 kc11 fl_X11_20 rfl ?_
        refine J_iconst (pc := 153) (v := 0) dX11_clause_153 (by decide) ?_
        refine J_il (pc := 154) dX11_clause_154 (by first | rfl | assumption) (rfl : (0 : Int32) = nI 0) ⟨by first | decide | omega, by decide⟩ ?_
        refine J_t1 (y := nI d.1.length) e0 ?_
        refine J_iconst (pc := 155) (v := 1) dX11_clause_155 (by decide) ?_
        refine J_isub (pc := 156) dX11_clause_156 ?_
        refine J_cvr (pc := 157) (N := mX11_number) dX11_clause_157 ml_X11_175 cf_X11_number cv_X11_number (r_X11_number (S := (sF Y 59 7 (nI (cl + 1)))) (t := (pwe cc n b, 0, h)) (lo := 0) (hi := d.1.length) hx0 p0 rfl rfl (by decide) (by omega)) rfl rfl (Nat.le_of_ble_eq_true rfl) (by decide) (rv_of (ci := 11) rfl rfl rfl) ?_
        refine J_is (pc := 160) dX11_clause_160 (lay_readRelic (by omega)) (rfl : (0 : Int32) = nI 0) ⟨by first | decide | omega, by decide⟩ ?_
        refine J_cg2 (S' := ps (sA (sF Y 59 7 (nI (cl + 1))) (69 + d.2.2.1.length) 0 (nI (pnum cc n 0 d.1.length (pwe cc n b, 0, h)).1)) (pnum cc n 0 d.1.length (pwe cc n b, 0, h)).2) rfl ?_
        refine J_aload_n (pc := 161) dX11_clause_161 rfl ?_
        refine J_getr (pc := 162) dX11_clause_162 kc11 fl_X11_40 rfl ?_
        refine J_iload_n (pc := 165) dX11_clause_165 rfl ?_
        refine J_ar1 (pc := 166) dX11_clause_166 rfl rfl ⟨by first | decide | omega, by decide⟩ ?_
        refine J_iconst (pc := 167) (v := 1) dX11_clause_167 (by decide) ?_
        refine J_aload_n (pc := 168) dX11_clause_168 rfl ?_
        refine J_iconst (pc := 169) (v := 0) dX11_clause_169 (by decide) ?_
        refine J_iconst (pc := 170) (v := 5) dX11_clause_170 (by decide) ?_
        refine J_cvr (pc := 171) (N := mX11_number) dX11_clause_171 ml_X11_175 cf_X11_number cv_X11_number (r_X11_number (S := (sA (sF Y 59 7 (nI (cl + 1))) (69 + d.2.2.1.length) 0 (nI (pnum cc n 0 d.1.length (pwe cc n b, 0, h)).1))) (t := (pnum cc n 0 d.1.length (pwe cc n b, 0, h)).2) (lo := 0) (hi := 6) (HO_TX hoA hx) pA rfl rfl (by decide) (by decide)) rfl rfl (Nat.le_of_ble_eq_true rfl) (by decide) (rv_of (ci := 11) rfl rfl rfl) ?_
        refine J_is (pc := 174) dX11_clause_174 (lay_readRelic (by omega)) (rfl : (1 : Int32) = nI 1) ⟨by first | decide | omega, by decide⟩ ?_
        refine J_cg2 (S' := ps (sA (sA (sF Y 59 7 (nI (cl + 1))) (69 + d.2.2.1.length) 0 (nI (pnum cc n 0 d.1.length (pwe cc n b, 0, h)).1)) (69 + d.2.2.1.length) 1 (nI (pnum cc n 0 6 (pnum cc n 0 d.1.length (pwe cc n b, 0, h)).2).1)) (pnum cc n 0 6 (pnum cc n 0 d.1.length (pwe cc n b, 0, h)).2).2) rfl ?_
        refine J_aload_n (pc := 175) dX11_clause_175 rfl ?_
        refine J_getr (pc := 176) dX11_clause_176 kc11 fl_X11_40 rfl ?_
        refine J_iload_n (pc := 179) dX11_clause_179 rfl ?_
        refine J_ar1 (pc := 180) dX11_clause_180 rfl rfl ⟨by first | decide | omega, by decide⟩ ?_
        refine J_iconst (pc := 181) (v := 2) dX11_clause_181 (by decide) ?_
        refine J_aload_n (pc := 182) dX11_clause_182 rfl ?_
        refine J_iconst (pc := 183) (v := 1) dX11_clause_183 (by decide) ?_
        refine J_bipush (pc := 184) (v := 30) dX11_clause_184 (by decide) ?_
        refine J_cvr (pc := 186) (N := mX11_number) dX11_clause_186 ml_X11_175 cf_X11_number cv_X11_number (r_X11_number (S := (sA (sA (sF Y 59 7 (nI (cl + 1))) (69 + d.2.2.1.length) 0 (nI (pnum cc n 0 d.1.length (pwe cc n b, 0, h)).1)) (69 + d.2.2.1.length) 1 (nI (pnum cc n 0 6 (pnum cc n 0 d.1.length (pwe cc n b, 0, h)).2).1))) (t := (pnum cc n 0 6 (pnum cc n 0 d.1.length (pwe cc n b, 0, h)).2).2) (lo := 1) (hi := 31) (HO_TX hoB hx) pB rfl rfl (by decide) (by decide)) rfl rfl (Nat.le_of_ble_eq_true rfl) (by decide) (rv_of (ci := 11) rfl rfl rfl) ?_
        refine J_is (pc := 189) dX11_clause_189 (lay_readRelic (by omega)) (rfl : (2 : Int32) = nI 2) ⟨by first | decide | omega, by decide⟩ ?_
        refine J_cg2 (S' := ps (sA (sA (sA (sF Y 59 7 (nI (cl + 1))) (69 + d.2.2.1.length) 0 (nI (pnum cc n 0 d.1.length (pwe cc n b, 0, h)).1)) (69 + d.2.2.1.length) 1 (nI (pnum cc n 0 6 (pnum cc n 0 d.1.length (pwe cc n b, 0, h)).2).1)) (69 + d.2.2.1.length) 2 (nI (pnum cc n 1 31 (pnum cc n 0 6 (pnum cc n 0 d.1.length (pwe cc n b, 0, h)).2).2).1)) (pnum cc n 1 31 (pnum cc n 0 6 (pnum cc n 0 d.1.length (pwe cc n b, 0, h)).2).2).2) rfl ?_
        refine J_goto (pc := 190) (tgt := 272) dX11_clause_190 (by decide) ?_
        refine J_iload_n (pc := 272) dX11_clause_272 rfl ?_
        refine J_iconst (pc := 273) (v := 3) dX11_clause_273 (by decide) ?_
        refine J_icmp_ge (pc := 274) (tgt := 298) dX11_clause_274 (by decide) (fun c274 => absurd c274 (by decide)) (fun c274 => ?_)
        refine J_aload_n (pc := 277) dX11_clause_277 rfl ?_
        refine J_getr (pc := 278) dX11_clause_278 kc11 fl_X11_20 rfl ?_
        refine J_iload_n (pc := 281) dX11_clause_281 rfl ?_
        refine J_dup2 (pc := 282) dX11_clause_282 rfl rfl ?_
        refine J_il (pc := 283) dX11_clause_283 (by first | rfl | assumption) (rfl : (1 : Int32) = nI 1) ⟨by first | decide | omega, by decide⟩ ?_
        refine J_t1 (y := nI d.2.2.1.length) (show sa (sA (sA (sA (sF Y 59 7 (nI (cl + 1))) (69 + d.2.2.1.length) 0 (nI (pnum cc n 0 d.1.length (pwe cc n b, 0, h)).1)) (69 + d.2.2.1.length) 1 (nI (pnum cc n 0 6 (pnum cc n 0 d.1.length (pwe cc n b, 0, h)).2).1)) (69 + d.2.2.1.length) 2 (nI (pnum cc n 1 31 (pnum cc n 0 6 (pnum cc n 0 d.1.length (pwe cc n b, 0, h)).2).2).1)) 62 1 = nI d.2.2.1.length by rw [sa_o (by omega), sa_o (by omega), sa_o (by omega)]; exact e1) ?_
        refine J_aload_n (pc := 284) dX11_clause_284 rfl ?_
        refine J_geti (pc := 285) dX11_clause_285 kc11 fl_X11_119 rfl ?_
        refine J_if_ne (pc := 288) (tgt := 295) dX11_clause_288 (by decide) (fun c288 => ?_) (fun c288 => absurd c288 (fun z => qn ((nI_z pF.2.1).mp z)))
        refine J_iconst (pc := 295) (v := 0) dX11_clause_295 (by decide) ?_
        refine J_iadd (pc := 296) dX11_clause_296 ?_
        refine J_is (pc := 297) dX11_clause_297 (by first | rfl | assumption) (rfl : (1 : Int32) = nI 1) ⟨by first | decide | omega, by decide⟩ ?_
        refine J_cg2 (S' := ps (sA (sA (sA (sA (sF Y 59 7 (nI (cl + 1))) (69 + d.2.2.1.length) 0 (nI (pnum cc n 0 d.1.length (pwe cc n b, 0, h)).1)) (69 + d.2.2.1.length) 1 (nI (pnum cc n 0 6 (pnum cc n 0 d.1.length (pwe cc n b, 0, h)).2).1)) (69 + d.2.2.1.length) 2 (nI (pnum cc n 1 31 (pnum cc n 0 6 (pnum cc n 0 d.1.length (pwe cc n b, 0, h)).2).2).1)) 62 1 (nI d.2.2.1.length + 0)) (pnum cc n 1 31 (pnum cc n 0 6 (pnum cc n 0 d.1.length (pwe cc n b, 0, h)).2).2).2) rfl ?_
        refine J_aload_n (pc := 298) dX11_clause_298 rfl ?_
        refine J_bipush (pc := 299) (v := 59) dX11_clause_299 (by decide) ?_
        refine J_st (st' := [.int (nI 59), .ref 59]) rfl ?_
        refine J_cvv (pc := 301) (N := mX11_sign) dX11_clause_301 ml_X11_179 cf_X11_sign cv_X11_sign (r_X11_sign (S := (sA (sA (sA (sA (sF Y 59 7 (nI (cl + 1))) (69 + d.2.2.1.length) 0 (nI (pnum cc n 0 d.1.length (pwe cc n b, 0, h)).1)) (69 + d.2.2.1.length) 1 (nI (pnum cc n 0 6 (pnum cc n 0 d.1.length (pwe cc n b, 0, h)).2).1)) (69 + d.2.2.1.length) 2 (nI (pnum cc n 1 31 (pnum cc n 0 6 (pnum cc n 0 d.1.length (pwe cc n b, 0, h)).2).2).1)) 62 1 (nI d.2.2.1.length + 0))) (t := (pnum cc n 1 31 (pnum cc n 0 6 (pnum cc n 0 d.1.length (pwe cc n b, 0, h)).2).2).2) (c := 59) (HO_TX hoF hx) pF (by decide)) rfl rfl (Nat.le_of_ble_eq_true rfl) (by decide) (rv_of (ci := 11) rfl rfl rfl) ?_
        exact J_ret (pc := 304) rfl rfl dX11_clause_304 (hQ _ ⟨(sA (sA (sA (sA (sF Y 59 7 (nI (cl + 1))) (69 + d.2.2.1.length) 0 (nI (pnum cc n 0 d.1.length (pwe cc n b, 0, h)).1)) (69 + d.2.2.1.length) 1 (nI (pnum cc n 0 6 (pnum cc n 0 d.1.length (pwe cc n b, 0, h)).2).1)) (69 + d.2.2.1.length) 2 (nI (pnum cc n 1 31 (pnum cc n 0 6 (pnum cc n 0 d.1.length (pwe cc n b, 0, h)).2).2).1)) 62 1 (nI d.2.2.1.length + 0)), by rw [hE]; rfl, hoF, fun z => by rw [hE] at z; exact absurd (psg_ok (show (psg cc n 59 (pnum cc n 1 31 (pnum cc n 0 6 (pnum cc n 0 d.1.length (pwe cc n b, 0, h)).2).2).2).2.1 = 0 from z)).1 qn⟩)
set_option maxHeartbeats 4000000 in
theorem cla_2 {g : Gp} {n : Nat} {cc : Nat → Nat} {S Y : Sx} {a b h cl : Nat} {d : HD} (hx : TX S n cc) (hO : HO S Y) (hM : HM Y d) (hc7 : sf Y 59 7 = nI cl) (hcl60 : cl ≤ 60) (ha : a ≤ n) (hh : h ≤ n) (hb : pbl cc n a = b) (hw : wix cc n b wHou 0 = some 2) {sz : Nat} {Q : Po} (hQ : ∀ X, (fun X => ∃ Y', X = ps Y' (hcl cc n ((a, 0, h), cl, d)).1 ∧ HO S Y' ∧ ((hcl cc n ((a, 0, h), cl, d)).1.2.1 = 0 → HM Y' (hcl cc n ((a, 0, h), cl, d)).2.2 ∧ sf Y' 59 7 = nI (hcl cc n ((a, 0, h), cl, d)).2.1)) X → Q (.inl none) (hs X) sz) : J g mX11_clause 6 [] 5 [some (.ref 59), some (.int 2), none, none, none] [] (hs (ps Y (b, 0, h))) sz 0 0 Q := by
  have hM' := hM
  have hn6 := hx.2.1
  have hn9 := hx.2.2.2 n (Nat.le_refl _)
  have hxy := HO_TX hO hx
  have hbl : b ≤ n := by rw [← hb]; exact pbl_le cc ha
  obtain ⟨e0, e1, e2, l0, l1, l2, m7, m8, m9, m10⟩ := hM
  have hw3 := wix_3 (by decide) hw
  have hwl := pwe_le cc hbl
  have p0 : PO n ((pwe cc n b, 0, h) : PT) := ⟨hwl, by show 0 ≤ 3; omega, hh⟩
  have hE : hcl cc n ((a, 0, h), cl, d) = if cl = 60 ∨ hfull d 2 = true then ((b, 3, b), cl, d) else (psg cc n 59 (hck cc n 2 (pwe cc n b, 0, h) d).1, cl + 1, (hck cc n 2 (pwe cc n b, 0, h) d).2) := by unfold hcl; rw [hb, hw]
  by_cases c60 : cl = 60
  · have hc : cl = 60 ∨ hfull d 2 = true := Or.inl c60
    refine J_iload_n (pc := 5) dX11_clause_5 rfl ?_
    refine J_iconst (pc := 6) (v := -1) dX11_clause_6 (by decide) ?_
    refine J_icmp_ne (pc := 7) (tgt := 22) dX11_clause_7 (by decide) (fun c7 => ?_) (fun c7 => absurd c7 (by decide))
    refine J_aload_n (pc := 22) dX11_clause_22 rfl ?_
    refine J_geti (pc := 23) dX11_clause_23 kc11 fl_X11_159 rfl ?_
    refine J_t1 hc7 ?_
    refine J_bipush (pc := 26) (v := 60) dX11_clause_26 (by decide) ?_
    refine J_icmp_eq (pc := 28) (tgt := 49) dX11_clause_28 (by decide) (fun c28 => ?_) (fun c28 => absurd (show nI cl = 60 by rw [c60]; rfl) c28)
    refine J_aload_n (pc := 49) dX11_clause_49 rfl ?_
    refine J_iconst (pc := 50) (v := 3) dX11_clause_50 (by decide) ?_
    refine J_aload_n (pc := 51) dX11_clause_51 rfl ?_
    refine J_geti (pc := 52) dX11_clause_52 kc11 fl_X11_112 rfl ?_
    refine J_cvv (pc := 55) (N := mX11_wrong) dX11_clause_55 ml_X11_132 cf_X11_wrong cv_X11_wrong (r_wr (S := Y) (t := (b, 0, h)) (k := 3) (h := b) (show 0 ≤ 3 by decide) (by decide)) rfl rfl (Nat.le_of_ble_eq_true rfl) (by decide) (rv_of (ci := 11) rfl rfl rfl) ?_
    refine J_cg2 (S' := ps Y (b, 3, b)) (ps_same rfl) ?_
    refine J_aload_n (pc := 58) dX11_clause_58 rfl ?_
    refine J_geti (pc := 59) dX11_clause_59 kc11 fl_X11_119 rfl ?_
    refine J_if_eq (pc := 62) (tgt := 66) dX11_clause_62 (by decide) (fun c62 => absurd c62 (show ¬ nI 3 = 0 by decide)) (fun c62 => ?_)
    exact J_ret (pc := 65) rfl rfl dX11_clause_65 (hQ _ ⟨Y, by rw [hE, if_pos hc], hO, fun z => by rw [hE, if_pos hc] at z; exact absurd z (by show ¬ 3 = 0; omega)⟩)
  · by_cases qf : d.2.2.2.length = 8
    · have hc : cl = 60 ∨ hfull d 2 = true := Or.inr (by unfold hfull; rw [qf]; rfl)
      refine J_iload_n (pc := 5) dX11_clause_5 rfl ?_
      refine J_iconst (pc := 6) (v := -1) dX11_clause_6 (by decide) ?_
      refine J_icmp_ne (pc := 7) (tgt := 22) dX11_clause_7 (by decide) (fun c7 => ?_) (fun c7 => absurd c7 (by decide))
      refine J_aload_n (pc := 22) dX11_clause_22 rfl ?_
      refine J_geti (pc := 23) dX11_clause_23 kc11 fl_X11_159 rfl ?_
      refine J_t1 hc7 ?_
      refine J_bipush (pc := 26) (v := 60) dX11_clause_26 (by decide) ?_
      refine J_icmp_eq (pc := 28) (tgt := 49) dX11_clause_28 (by decide) (fun c28 => absurd c28 (fun z => c60 ((nI_eq (b := 60) (by omega) (by decide)).mp z))) (fun c28 => ?_)
      refine J_iload_n (pc := 31) dX11_clause_31 rfl ?_
      refine J_iconst (pc := 32) (v := 3) dX11_clause_32 (by decide) ?_
      refine J_icmp_ge (pc := 33) (tgt := 58) dX11_clause_33 (by decide) (fun c33 => absurd c33 (by decide)) (fun c33 => ?_)
      refine J_aload_n (pc := 36) dX11_clause_36 rfl ?_
      refine J_getr (pc := 37) dX11_clause_37 kc11 fl_X11_20 rfl ?_
      refine J_iload_n (pc := 40) dX11_clause_40 rfl ?_
      refine J_il (pc := 41) dX11_clause_41 (by first | rfl | assumption) (rfl : (2 : Int32) = nI 2) ⟨by first | decide | omega, by decide⟩ ?_
      refine J_t1 (y := nI d.2.2.2.length) e2 ?_
      refine J_iload_n (pc := 42) dX11_clause_42 rfl ?_
      refine J_st (st' := [.int (nI 2), .int (nI d.2.2.2.length)]) rfl ?_
      refine J_csr (pc := 43) (N := mX11_mostOf) dX11_clause_43 ml_X11_172 cf_X11_mostOf cs_X11_mostOf (r_X11_mostOf (S := ps Y (b, 0, h)) (k := 2) (by decide)) rfl rfl (Nat.le_of_ble_eq_true rfl) (by decide) ?_
      refine J_t1 (y := 8) rfl ?_
      refine J_icmp_ne (pc := 46) (tgt := 58) dX11_clause_46 (by decide) (fun c46 => absurd (show nI d.2.2.2.length = 8 by rw [qf]; rfl) c46) (fun c46 => ?_)
      refine J_aload_n (pc := 49) dX11_clause_49 rfl ?_
      refine J_iconst (pc := 50) (v := 3) dX11_clause_50 (by decide) ?_
      refine J_aload_n (pc := 51) dX11_clause_51 rfl ?_
      refine J_geti (pc := 52) dX11_clause_52 kc11 fl_X11_112 rfl ?_
      refine J_cvv (pc := 55) (N := mX11_wrong) dX11_clause_55 ml_X11_132 cf_X11_wrong cv_X11_wrong (r_wr (S := Y) (t := (b, 0, h)) (k := 3) (h := b) (show 0 ≤ 3 by decide) (by decide)) rfl rfl (Nat.le_of_ble_eq_true rfl) (by decide) (rv_of (ci := 11) rfl rfl rfl) ?_
      refine J_cg2 (S' := ps Y (b, 3, b)) (ps_same rfl) ?_
      refine J_aload_n (pc := 58) dX11_clause_58 rfl ?_
      refine J_geti (pc := 59) dX11_clause_59 kc11 fl_X11_119 rfl ?_
      refine J_if_eq (pc := 62) (tgt := 66) dX11_clause_62 (by decide) (fun c62 => absurd c62 (show ¬ nI 3 = 0 by decide)) (fun c62 => ?_)
      exact J_ret (pc := 65) rfl rfl dX11_clause_65 (hQ _ ⟨Y, by rw [hE, if_pos hc], hO, fun z => by rw [hE, if_pos hc] at z; exact absurd z (by show ¬ 3 = 0; omega)⟩)
    · have hc : ¬ (cl = 60 ∨ hfull d 2 = true) := by
        intro z
        rcases z with z | z
        · exact c60 z
        · unfold hfull at z
          simp at z
          exact qf z
      rw [if_neg hc] at hE
      have hlt : d.2.2.2.length < 8 := by omega
      have hY0 : HO S (sF Y 59 7 (nI (cl + 1))) := HO_F hO
      have hx0 := HO_TX hY0 hx
      have hoA : HO S (sA (sF Y 59 7 (nI (cl + 1))) (91 + d.2.2.2.length) 0 (nI (pnum cc n 0 6 (pwe cc n b, 0, h)).1)) := HO_A hY0 (hA91 (by omega))
      have hoY : HO S (sA (sA (sF Y 59 7 (nI (cl + 1))) (91 + d.2.2.2.length) 0 (nI (pnum cc n 0 6 (pwe cc n b, 0, h)).1)) (91 + d.2.2.2.length) 1 (nI (pnum cc n 1 100 (pnum cc n 0 6 (pwe cc n b, 0, h)).2).1)) := HO_A hoA (hA91 (by omega))
      have pA : PO n (pnum cc n 0 6 (pwe cc n b, 0, h)).2 := PO_num hx p0 0 6
      have pF : PO n (pnum cc n 1 100 (pnum cc n 0 6 (pwe cc n b, 0, h)).2).2 := PO_num hx pA 1 100
      by_cases qn : (pnum cc n 1 100 (pnum cc n 0 6 (pwe cc n b, 0, h)).2).2.2.1 = 0
      · have hoF : HO S (sA (sA (sA (sF Y 59 7 (nI (cl + 1))) (91 + d.2.2.2.length) 0 (nI (pnum cc n 0 6 (pwe cc n b, 0, h)).1)) (91 + d.2.2.2.length) 1 (nI (pnum cc n 1 100 (pnum cc n 0 6 (pwe cc n b, 0, h)).2).1)) 62 2 (nI (d.2.2.2.length + 1))) := HO_A hoY rfl
        refine J_iload_n (pc := 5) dX11_clause_5 rfl ?_
        refine J_iconst (pc := 6) (v := -1) dX11_clause_6 (by decide) ?_
        refine J_icmp_ne (pc := 7) (tgt := 22) dX11_clause_7 (by decide) (fun c7 => ?_) (fun c7 => absurd c7 (by decide))
        refine J_aload_n (pc := 22) dX11_clause_22 rfl ?_
        refine J_geti (pc := 23) dX11_clause_23 kc11 fl_X11_159 rfl ?_
        refine J_t1 hc7 ?_
        refine J_bipush (pc := 26) (v := 60) dX11_clause_26 (by decide) ?_
        refine J_icmp_eq (pc := 28) (tgt := 49) dX11_clause_28 (by decide) (fun c28 => absurd c28 (fun z => c60 ((nI_eq (b := 60) (by omega) (by decide)).mp z))) (fun c28 => ?_)
        refine J_iload_n (pc := 31) dX11_clause_31 rfl ?_
        refine J_iconst (pc := 32) (v := 3) dX11_clause_32 (by decide) ?_
        refine J_icmp_ge (pc := 33) (tgt := 58) dX11_clause_33 (by decide) (fun c33 => absurd c33 (by decide)) (fun c33 => ?_)
        refine J_aload_n (pc := 36) dX11_clause_36 rfl ?_
        refine J_getr (pc := 37) dX11_clause_37 kc11 fl_X11_20 rfl ?_
        refine J_iload_n (pc := 40) dX11_clause_40 rfl ?_
        refine J_il (pc := 41) dX11_clause_41 (by first | rfl | assumption) (rfl : (2 : Int32) = nI 2) ⟨by first | decide | omega, by decide⟩ ?_
        refine J_t1 (y := nI d.2.2.2.length) e2 ?_
        refine J_iload_n (pc := 42) dX11_clause_42 rfl ?_
        refine J_st (st' := [.int (nI 2), .int (nI d.2.2.2.length)]) rfl ?_
        refine J_csr (pc := 43) (N := mX11_mostOf) dX11_clause_43 ml_X11_172 cf_X11_mostOf cs_X11_mostOf (r_X11_mostOf (S := ps Y (b, 0, h)) (k := 2) (by decide)) rfl rfl (Nat.le_of_ble_eq_true rfl) (by decide) ?_
        refine J_t1 (y := 8) rfl ?_
        refine J_icmp_ne (pc := 46) (tgt := 58) dX11_clause_46 (by decide) (fun c46 => ?_) (fun c46 => absurd c46 (fun z => qf ((nI_eq (b := 8) (by omega) (by decide)).mp z)))
        refine J_aload_n (pc := 58) dX11_clause_58 rfl ?_
        refine J_geti (pc := 59) dX11_clause_59 kc11 fl_X11_119 rfl ?_
        refine J_if_eq (pc := 62) (tgt := 66) dX11_clause_62 (by decide) (fun c62 => ?_) (fun c62 => absurd (show nI 0 = 0 from rfl) c62)
        refine J_aload_n (pc := 66) dX11_clause_66 rfl ?_
        refine J_cvv (pc := 67) (N := mX11_skipWord) dX11_clause_67 ml_X11_156 cf_X11_skipWord cv_X11_skipWord (r_X11_skipWord (S := Y) (t := (b, 0, h)) hxy hbl) rfl rfl (Nat.le_of_ble_eq_true rfl) (by decide) (rv_of (ci := 11) rfl rfl rfl) ?_
        refine J_aload_n (pc := 70) dX11_clause_70 rfl ?_
        refine J_dup (pc := 71) dX11_clause_71 rfl ?_
        refine J_geti (pc := 72) dX11_clause_72 kc11 fl_X11_159 rfl ?_
        refine J_t1 (y := nI cl) hc7 ?_
        refine J_iconst (pc := 75) (v := 1) dX11_clause_75 (by decide) ?_
        refine J_iadd (pc := 76) dX11_clause_76 ?_
        refine J_t1 (nI_1 cl) ?_
        refine J_puti (pc := 77) dX11_clause_77 kc11 fl_X11_159 rfl ⟨rfl, rfl⟩ ?_
        refine J_cg2 (ps_sF Y _ (by decide) (by decide) (by decide)) ?_
        refine J_iload_n (pc := 80) dX11_clause_80 rfl ?_
        refine J_iconst (pc := 81) (v := 3) dX11_clause_81 (by decide) ?_
        refine J_icmp_ge (pc := 82) (tgt := 94) dX11_clause_82 (by decide) (fun c82 => absurd c82 (by decide)) (fun c82 => ?_)
        refine J_aload_n (pc := 85) dX11_clause_85 rfl ?_
        refine J_getr (pc := 86) dX11_clause_86 kc11 fl_X11_20 rfl ?_
        refine J_iload_n (pc := 89) dX11_clause_89 rfl ?_
        refine J_il (pc := 90) dX11_clause_90 (by first | rfl | assumption) (rfl : (2 : Int32) = nI 2) ⟨by first | decide | omega, by decide⟩ ?_
        refine J_t1 (y := nI d.2.2.2.length) e2 ?_
        refine J_goto (pc := 91) (tgt := 95) dX11_clause_91 (by decide) ?_
        refine J_istore_n (pc := 95) dX11_clause_95 (by decide) rfl ?_
        refine J_iload_n (pc := 96) dX11_clause_96 rfl ?_
        refine J_tableIn (pc := 97) (off := 96) (tgt := 193) dX11_clause_97 (by decide) (by decide) (by decide) (by decide) ?_
        refine J_aload_n (pc := 193) dX11_clause_193 rfl ?_
        refine J_getr (pc := 194) dX11_clause_194 kc11 fl_X11_46 rfl ?_
        refine J_iload_n (pc := 197) dX11_clause_197 rfl ?_
        refine J_ar1 (pc := 198) dX11_clause_198 rfl rfl ⟨by first | decide | omega, by decide⟩ ?_
        refine J_iconst (pc := 199) (v := 0) dX11_clause_199 (by decide) ?_
        refine J_aload_n (pc := 200) dX11_clause_200 rfl ?_
        refine J_iconst (pc := 201) (v := 0) dX11_clause_201 (by decide) ?_
        refine J_iconst (pc := 202) (v := 5) dX11_clause_202 (by decide) ?_
        refine J_cvr (pc := 203) (N := mX11_number) dX11_clause_203 ml_X11_175 cf_X11_number cv_X11_number (r_X11_number (S := (sF Y 59 7 (nI (cl + 1)))) (t := (pwe cc n b, 0, h)) (lo := 0) (hi := 6) hx0 p0 rfl rfl (by decide) (by decide)) rfl rfl (Nat.le_of_ble_eq_true rfl) (by decide) (rv_of (ci := 11) rfl rfl rfl) ?_
        refine J_is (pc := 206) dX11_clause_206 (lay_readPilgrim (by omega)) (rfl : (0 : Int32) = nI 0) ⟨by first | decide | omega, by decide⟩ ?_
        refine J_cg2 (S' := ps (sA (sF Y 59 7 (nI (cl + 1))) (91 + d.2.2.2.length) 0 (nI (pnum cc n 0 6 (pwe cc n b, 0, h)).1)) (pnum cc n 0 6 (pwe cc n b, 0, h)).2) rfl ?_
        refine J_aload_n (pc := 207) dX11_clause_207 rfl ?_
        refine J_getr (pc := 208) dX11_clause_208 kc11 fl_X11_46 rfl ?_
        refine J_iload_n (pc := 211) dX11_clause_211 rfl ?_
        refine J_ar1 (pc := 212) dX11_clause_212 rfl rfl ⟨by first | decide | omega, by decide⟩ ?_
        refine J_iconst (pc := 213) (v := 1) dX11_clause_213 (by decide) ?_
        refine J_aload_n (pc := 214) dX11_clause_214 rfl ?_
        refine J_iconst (pc := 215) (v := 1) dX11_clause_215 (by decide) ?_
        refine J_bipush (pc := 216) (v := 99) dX11_clause_216 (by decide) ?_
        refine J_cvr (pc := 218) (N := mX11_number) dX11_clause_218 ml_X11_175 cf_X11_number cv_X11_number (r_X11_number (S := (sA (sF Y 59 7 (nI (cl + 1))) (91 + d.2.2.2.length) 0 (nI (pnum cc n 0 6 (pwe cc n b, 0, h)).1))) (t := (pnum cc n 0 6 (pwe cc n b, 0, h)).2) (lo := 1) (hi := 100) (HO_TX hoA hx) pA rfl rfl (by decide) (by decide)) rfl rfl (Nat.le_of_ble_eq_true rfl) (by decide) (rv_of (ci := 11) rfl rfl rfl) ?_
        refine J_is (pc := 221) dX11_clause_221 (lay_readPilgrim (by omega)) (rfl : (1 : Int32) = nI 1) ⟨by first | decide | omega, by decide⟩ ?_
        refine J_cg2 (S' := ps (sA (sA (sF Y 59 7 (nI (cl + 1))) (91 + d.2.2.2.length) 0 (nI (pnum cc n 0 6 (pwe cc n b, 0, h)).1)) (91 + d.2.2.2.length) 1 (nI (pnum cc n 1 100 (pnum cc n 0 6 (pwe cc n b, 0, h)).2).1)) (pnum cc n 1 100 (pnum cc n 0 6 (pwe cc n b, 0, h)).2).2) rfl ?_
        refine J_goto (pc := 222) (tgt := 272) dX11_clause_222 (by decide) ?_
        refine J_iload_n (pc := 272) dX11_clause_272 rfl ?_
        refine J_iconst (pc := 273) (v := 3) dX11_clause_273 (by decide) ?_
        refine J_icmp_ge (pc := 274) (tgt := 298) dX11_clause_274 (by decide) (fun c274 => absurd c274 (by decide)) (fun c274 => ?_)
        refine J_aload_n (pc := 277) dX11_clause_277 rfl ?_
        refine J_getr (pc := 278) dX11_clause_278 kc11 fl_X11_20 rfl ?_
        refine J_iload_n (pc := 281) dX11_clause_281 rfl ?_
        refine J_dup2 (pc := 282) dX11_clause_282 rfl rfl ?_
        refine J_il (pc := 283) dX11_clause_283 (by first | rfl | assumption) (rfl : (2 : Int32) = nI 2) ⟨by first | decide | omega, by decide⟩ ?_
        refine J_t1 (y := nI d.2.2.2.length) (show sa (sA (sA (sF Y 59 7 (nI (cl + 1))) (91 + d.2.2.2.length) 0 (nI (pnum cc n 0 6 (pwe cc n b, 0, h)).1)) (91 + d.2.2.2.length) 1 (nI (pnum cc n 1 100 (pnum cc n 0 6 (pwe cc n b, 0, h)).2).1)) 62 2 = nI d.2.2.2.length by rw [sa_o (by omega), sa_o (by omega)]; exact e2) ?_
        refine J_aload_n (pc := 284) dX11_clause_284 rfl ?_
        refine J_geti (pc := 285) dX11_clause_285 kc11 fl_X11_119 rfl ?_
        refine J_if_ne (pc := 288) (tgt := 295) dX11_clause_288 (by decide) (fun c288 => absurd (show nI (pnum cc n 1 100 (pnum cc n 0 6 (pwe cc n b, 0, h)).2).2.2.1 = 0 by rw [qn]; rfl) c288) (fun c288 => ?_)
        refine J_iconst (pc := 291) (v := 1) dX11_clause_291 (by decide) ?_
        refine J_goto (pc := 292) (tgt := 296) dX11_clause_292 (by decide) ?_
        refine J_iadd (pc := 296) dX11_clause_296 ?_
        refine J_t1 (nI_1 d.2.2.2.length) ?_
        refine J_is (pc := 297) dX11_clause_297 (by first | rfl | assumption) (rfl : (2 : Int32) = nI 2) ⟨by first | decide | omega, by decide⟩ ?_
        refine J_cg2 (S' := ps (sA (sA (sA (sF Y 59 7 (nI (cl + 1))) (91 + d.2.2.2.length) 0 (nI (pnum cc n 0 6 (pwe cc n b, 0, h)).1)) (91 + d.2.2.2.length) 1 (nI (pnum cc n 1 100 (pnum cc n 0 6 (pwe cc n b, 0, h)).2).1)) 62 2 (nI (d.2.2.2.length + 1))) (pnum cc n 1 100 (pnum cc n 0 6 (pwe cc n b, 0, h)).2).2) rfl ?_
        refine J_aload_n (pc := 298) dX11_clause_298 rfl ?_
        refine J_bipush (pc := 299) (v := 59) dX11_clause_299 (by decide) ?_
        refine J_st (st' := [.int (nI 59), .ref 59]) rfl ?_
        refine J_cvv (pc := 301) (N := mX11_sign) dX11_clause_301 ml_X11_179 cf_X11_sign cv_X11_sign (r_X11_sign (S := (sA (sA (sA (sF Y 59 7 (nI (cl + 1))) (91 + d.2.2.2.length) 0 (nI (pnum cc n 0 6 (pwe cc n b, 0, h)).1)) (91 + d.2.2.2.length) 1 (nI (pnum cc n 1 100 (pnum cc n 0 6 (pwe cc n b, 0, h)).2).1)) 62 2 (nI (d.2.2.2.length + 1)))) (t := (pnum cc n 1 100 (pnum cc n 0 6 (pwe cc n b, 0, h)).2).2) (c := 59) (HO_TX hoF hx) pF (by decide)) rfl rfl (Nat.le_of_ble_eq_true rfl) (by decide) (rv_of (ci := 11) rfl rfl rfl) ?_
        exact J_ret (pc := 304) rfl rfl dX11_clause_304 (hQ _ ⟨(sA (sA (sA (sF Y 59 7 (nI (cl + 1))) (91 + d.2.2.2.length) 0 (nI (pnum cc n 0 6 (pwe cc n b, 0, h)).1)) (91 + d.2.2.2.length) 1 (nI (pnum cc n 1 100 (pnum cc n 0 6 (pwe cc n b, 0, h)).2).1)) 62 2 (nI (d.2.2.2.length + 1))), by rw [hE]; rfl, hoF, fun _ => by rw [hE]; exact ⟨HM_2 (HM_F hM') hlt _ _, rfl⟩⟩)
      · have hoF : HO S (sA (sA (sA (sF Y 59 7 (nI (cl + 1))) (91 + d.2.2.2.length) 0 (nI (pnum cc n 0 6 (pwe cc n b, 0, h)).1)) (91 + d.2.2.2.length) 1 (nI (pnum cc n 1 100 (pnum cc n 0 6 (pwe cc n b, 0, h)).2).1)) 62 2 (nI d.2.2.2.length + 0)) := HO_A hoY rfl
        refine J_iload_n (pc := 5) dX11_clause_5 rfl ?_
        refine J_iconst (pc := 6) (v := -1) dX11_clause_6 (by decide) ?_
        refine J_icmp_ne (pc := 7) (tgt := 22) dX11_clause_7 (by decide) (fun c7 => ?_) (fun c7 => absurd c7 (by decide))
        refine J_aload_n (pc := 22) dX11_clause_22 rfl ?_
        refine J_geti (pc := 23) dX11_clause_23 kc11 fl_X11_159 rfl ?_
        refine J_t1 hc7 ?_
        refine J_bipush (pc := 26) (v := 60) dX11_clause_26 (by decide) ?_
        refine J_icmp_eq (pc := 28) (tgt := 49) dX11_clause_28 (by decide) (fun c28 => absurd c28 (fun z => c60 ((nI_eq (b := 60) (by omega) (by decide)).mp z))) (fun c28 => ?_)
        refine J_iload_n (pc := 31) dX11_clause_31 rfl ?_
        refine J_iconst (pc := 32) (v := 3) dX11_clause_32 (by decide) ?_
        refine J_icmp_ge (pc := 33) (tgt := 58) dX11_clause_33 (by decide) (fun c33 => absurd c33 (by decide)) (fun c33 => ?_)
        refine J_aload_n (pc := 36) dX11_clause_36 rfl ?_
        refine J_getr (pc := 37) dX11_clause_37 kc11 fl_X11_20 rfl ?_
        refine J_iload_n (pc := 40) dX11_clause_40 rfl ?_
        refine J_il (pc := 41) dX11_clause_41 (by first | rfl | assumption) (rfl : (2 : Int32) = nI 2) ⟨by first | decide | omega, by decide⟩ ?_
        refine J_t1 (y := nI d.2.2.2.length) e2 ?_
        refine J_iload_n (pc := 42) dX11_clause_42 rfl ?_
        refine J_st (st' := [.int (nI 2), .int (nI d.2.2.2.length)]) rfl ?_
        refine J_csr (pc := 43) (N := mX11_mostOf) dX11_clause_43 ml_X11_172 cf_X11_mostOf cs_X11_mostOf (r_X11_mostOf (S := ps Y (b, 0, h)) (k := 2) (by decide)) rfl rfl (Nat.le_of_ble_eq_true rfl) (by decide) ?_
        refine J_t1 (y := 8) rfl ?_
        refine J_icmp_ne (pc := 46) (tgt := 58) dX11_clause_46 (by decide) (fun c46 => ?_) (fun c46 => absurd c46 (fun z => qf ((nI_eq (b := 8) (by omega) (by decide)).mp z)))
        refine J_aload_n (pc := 58) dX11_clause_58 rfl ?_
        refine J_geti (pc := 59) dX11_clause_59 kc11 fl_X11_119 rfl ?_
        refine J_if_eq (pc := 62) (tgt := 66) dX11_clause_62 (by decide) (fun c62 => ?_) (fun c62 => absurd (show nI 0 = 0 from rfl) c62)
        refine J_aload_n (pc := 66) dX11_clause_66 rfl ?_
        refine J_cvv (pc := 67) (N := mX11_skipWord) dX11_clause_67 ml_X11_156 cf_X11_skipWord cv_X11_skipWord (r_X11_skipWord (S := Y) (t := (b, 0, h)) hxy hbl) rfl rfl (Nat.le_of_ble_eq_true rfl) (by decide) (rv_of (ci := 11) rfl rfl rfl) ?_
        refine J_aload_n (pc := 70) dX11_clause_70 rfl ?_
        refine J_dup (pc := 71) dX11_clause_71 rfl ?_
        refine J_geti (pc := 72) dX11_clause_72 kc11 fl_X11_159 rfl ?_
        refine J_t1 (y := nI cl) hc7 ?_
        refine J_iconst (pc := 75) (v := 1) dX11_clause_75 (by decide) ?_
        refine J_iadd (pc := 76) dX11_clause_76 ?_
        refine J_t1 (nI_1 cl) ?_
        refine J_puti (pc := 77) dX11_clause_77 kc11 fl_X11_159 rfl ⟨rfl, rfl⟩ ?_
        refine J_cg2 (ps_sF Y _ (by decide) (by decide) (by decide)) ?_
        refine J_iload_n (pc := 80) dX11_clause_80 rfl ?_
        refine J_iconst (pc := 81) (v := 3) dX11_clause_81 (by decide) ?_
        refine J_icmp_ge (pc := 82) (tgt := 94) dX11_clause_82 (by decide) (fun c82 => absurd c82 (by decide)) (fun c82 => ?_)
        refine J_aload_n (pc := 85) dX11_clause_85 rfl ?_
        refine J_getr (pc := 86) dX11_clause_86 kc11 fl_X11_20 rfl ?_
        refine J_iload_n (pc := 89) dX11_clause_89 rfl ?_
        refine J_il (pc := 90) dX11_clause_90 (by first | rfl | assumption) (rfl : (2 : Int32) = nI 2) ⟨by first | decide | omega, by decide⟩ ?_
        refine J_t1 (y := nI d.2.2.2.length) e2 ?_
        refine J_goto (pc := 91) (tgt := 95) dX11_clause_91 (by decide) ?_
        refine J_istore_n (pc := 95) dX11_clause_95 (by decide) rfl ?_
        refine J_iload_n (pc := 96) dX11_clause_96 rfl ?_
        refine J_tableIn (pc := 97) (off := 96) (tgt := 193) dX11_clause_97 (by decide) (by decide) (by decide) (by decide) ?_
        refine J_aload_n (pc := 193) dX11_clause_193 rfl ?_
        refine J_getr (pc := 194) dX11_clause_194 kc11 fl_X11_46 rfl ?_
        refine J_iload_n (pc := 197) dX11_clause_197 rfl ?_
        refine J_ar1 (pc := 198) dX11_clause_198 rfl rfl ⟨by first | decide | omega, by decide⟩ ?_
        refine J_iconst (pc := 199) (v := 0) dX11_clause_199 (by decide) ?_
        refine J_aload_n (pc := 200) dX11_clause_200 rfl ?_
        refine J_iconst (pc := 201) (v := 0) dX11_clause_201 (by decide) ?_
        refine J_iconst (pc := 202) (v := 5) dX11_clause_202 (by decide) ?_
        refine J_cvr (pc := 203) (N := mX11_number) dX11_clause_203 ml_X11_175 cf_X11_number cv_X11_number (r_X11_number (S := (sF Y 59 7 (nI (cl + 1)))) (t := (pwe cc n b, 0, h)) (lo := 0) (hi := 6) hx0 p0 rfl rfl (by decide) (by decide)) rfl rfl (Nat.le_of_ble_eq_true rfl) (by decide) (rv_of (ci := 11) rfl rfl rfl) ?_
        refine J_is (pc := 206) dX11_clause_206 (lay_readPilgrim (by omega)) (rfl : (0 : Int32) = nI 0) ⟨by first | decide | omega, by decide⟩ ?_
        refine J_cg2 (S' := ps (sA (sF Y 59 7 (nI (cl + 1))) (91 + d.2.2.2.length) 0 (nI (pnum cc n 0 6 (pwe cc n b, 0, h)).1)) (pnum cc n 0 6 (pwe cc n b, 0, h)).2) rfl ?_
        refine J_aload_n (pc := 207) dX11_clause_207 rfl ?_
        refine J_getr (pc := 208) dX11_clause_208 kc11 fl_X11_46 rfl ?_
        refine J_iload_n (pc := 211) dX11_clause_211 rfl ?_
        refine J_ar1 (pc := 212) dX11_clause_212 rfl rfl ⟨by first | decide | omega, by decide⟩ ?_
        refine J_iconst (pc := 213) (v := 1) dX11_clause_213 (by decide) ?_
        refine J_aload_n (pc := 214) dX11_clause_214 rfl ?_
        refine J_iconst (pc := 215) (v := 1) dX11_clause_215 (by decide) ?_
        refine J_bipush (pc := 216) (v := 99) dX11_clause_216 (by decide) ?_
        refine J_cvr (pc := 218) (N := mX11_number) dX11_clause_218 ml_X11_175 cf_X11_number cv_X11_number (r_X11_number (S := (sA (sF Y 59 7 (nI (cl + 1))) (91 + d.2.2.2.length) 0 (nI (pnum cc n 0 6 (pwe cc n b, 0, h)).1))) (t := (pnum cc n 0 6 (pwe cc n b, 0, h)).2) (lo := 1) (hi := 100) (HO_TX hoA hx) pA rfl rfl (by decide) (by decide)) rfl rfl (Nat.le_of_ble_eq_true rfl) (by decide) (rv_of (ci := 11) rfl rfl rfl) ?_
        refine J_is (pc := 221) dX11_clause_221 (lay_readPilgrim (by omega)) (rfl : (1 : Int32) = nI 1) ⟨by first | decide | omega, by decide⟩ ?_
        refine J_cg2 (S' := ps (sA (sA (sF Y 59 7 (nI (cl + 1))) (91 + d.2.2.2.length) 0 (nI (pnum cc n 0 6 (pwe cc n b, 0, h)).1)) (91 + d.2.2.2.length) 1 (nI (pnum cc n 1 100 (pnum cc n 0 6 (pwe cc n b, 0, h)).2).1)) (pnum cc n 1 100 (pnum cc n 0 6 (pwe cc n b, 0, h)).2).2) rfl ?_
        refine J_goto (pc := 222) (tgt := 272) dX11_clause_222 (by decide) ?_
        refine J_iload_n (pc := 272) dX11_clause_272 rfl ?_
        refine J_iconst (pc := 273) (v := 3) dX11_clause_273 (by decide) ?_
        refine J_icmp_ge (pc := 274) (tgt := 298) dX11_clause_274 (by decide) (fun c274 => absurd c274 (by decide)) (fun c274 => ?_)
        refine J_aload_n (pc := 277) dX11_clause_277 rfl ?_
        refine J_getr (pc := 278) dX11_clause_278 kc11 fl_X11_20 rfl ?_
        refine J_iload_n (pc := 281) dX11_clause_281 rfl ?_
        refine J_dup2 (pc := 282) dX11_clause_282 rfl rfl ?_
        refine J_il (pc := 283) dX11_clause_283 (by first | rfl | assumption) (rfl : (2 : Int32) = nI 2) ⟨by first | decide | omega, by decide⟩ ?_
        refine J_t1 (y := nI d.2.2.2.length) (show sa (sA (sA (sF Y 59 7 (nI (cl + 1))) (91 + d.2.2.2.length) 0 (nI (pnum cc n 0 6 (pwe cc n b, 0, h)).1)) (91 + d.2.2.2.length) 1 (nI (pnum cc n 1 100 (pnum cc n 0 6 (pwe cc n b, 0, h)).2).1)) 62 2 = nI d.2.2.2.length by rw [sa_o (by omega), sa_o (by omega)]; exact e2) ?_
        refine J_aload_n (pc := 284) dX11_clause_284 rfl ?_
        refine J_geti (pc := 285) dX11_clause_285 kc11 fl_X11_119 rfl ?_
        refine J_if_ne (pc := 288) (tgt := 295) dX11_clause_288 (by decide) (fun c288 => ?_) (fun c288 => absurd c288 (fun z => qn ((nI_z pF.2.1).mp z)))
        refine J_iconst (pc := 295) (v := 0) dX11_clause_295 (by decide) ?_
        refine J_iadd (pc := 296) dX11_clause_296 ?_
        refine J_is (pc := 297) dX11_clause_297 (by first | rfl | assumption) (rfl : (2 : Int32) = nI 2) ⟨by first | decide | omega, by decide⟩ ?_
        refine J_cg2 (S' := ps (sA (sA (sA (sF Y 59 7 (nI (cl + 1))) (91 + d.2.2.2.length) 0 (nI (pnum cc n 0 6 (pwe cc n b, 0, h)).1)) (91 + d.2.2.2.length) 1 (nI (pnum cc n 1 100 (pnum cc n 0 6 (pwe cc n b, 0, h)).2).1)) 62 2 (nI d.2.2.2.length + 0)) (pnum cc n 1 100 (pnum cc n 0 6 (pwe cc n b, 0, h)).2).2) rfl ?_
        refine J_aload_n (pc := 298) dX11_clause_298 rfl ?_
        refine J_bipush (pc := 299) (v := 59) dX11_clause_299 (by decide) ?_
        refine J_st (st' := [.int (nI 59), .ref 59]) rfl ?_
        refine J_cvv (pc := 301) (N := mX11_sign) dX11_clause_301 ml_X11_179 cf_X11_sign cv_X11_sign (r_X11_sign (S := (sA (sA (sA (sF Y 59 7 (nI (cl + 1))) (91 + d.2.2.2.length) 0 (nI (pnum cc n 0 6 (pwe cc n b, 0, h)).1)) (91 + d.2.2.2.length) 1 (nI (pnum cc n 1 100 (pnum cc n 0 6 (pwe cc n b, 0, h)).2).1)) 62 2 (nI d.2.2.2.length + 0))) (t := (pnum cc n 1 100 (pnum cc n 0 6 (pwe cc n b, 0, h)).2).2) (c := 59) (HO_TX hoF hx) pF (by decide)) rfl rfl (Nat.le_of_ble_eq_true rfl) (by decide) (rv_of (ci := 11) rfl rfl rfl) ?_
        exact J_ret (pc := 304) rfl rfl dX11_clause_304 (hQ _ ⟨(sA (sA (sA (sF Y 59 7 (nI (cl + 1))) (91 + d.2.2.2.length) 0 (nI (pnum cc n 0 6 (pwe cc n b, 0, h)).1)) (91 + d.2.2.2.length) 1 (nI (pnum cc n 1 100 (pnum cc n 0 6 (pwe cc n b, 0, h)).2).1)) 62 2 (nI d.2.2.2.length + 0)), by rw [hE]; rfl, hoF, fun z => by rw [hE] at z; exact absurd (psg_ok (show (psg cc n 59 (pnum cc n 1 100 (pnum cc n 0 6 (pwe cc n b, 0, h)).2).2).2.1 = 0 from z)).1 qn⟩)
set_option maxHeartbeats 4000000 in
theorem cla_3 {g : Gp} {n : Nat} {cc : Nat → Nat} {S Y : Sx} {a b h cl : Nat} {d : HD} (hx : TX S n cc) (hO : HO S Y) (hM : HM Y d) (hc7 : sf Y 59 7 = nI cl) (hcl60 : cl ≤ 60) (ha : a ≤ n) (hh : h ≤ n) (hb : pbl cc n a = b) (hw : wix cc n b wHou 0 = some 3) {sz : Nat} {Q : Po} (hQ : ∀ X, (fun X => ∃ Y', X = ps Y' (hcl cc n ((a, 0, h), cl, d)).1 ∧ HO S Y' ∧ ((hcl cc n ((a, 0, h), cl, d)).1.2.1 = 0 → HM Y' (hcl cc n ((a, 0, h), cl, d)).2.2 ∧ sf Y' 59 7 = nI (hcl cc n ((a, 0, h), cl, d)).2.1)) X → Q (.inl none) (hs X) sz) : J g mX11_clause 6 [] 5 [some (.ref 59), some (.int 3), none, none, none] [] (hs (ps Y (b, 0, h))) sz 0 0 Q := by
  have hM' := hM
  have hn6 := hx.2.1
  have hn9 := hx.2.2.2 n (Nat.le_refl _)
  have hxy := HO_TX hO hx
  have hbl : b ≤ n := by rw [← hb]; exact pbl_le cc ha
  obtain ⟨e0, e1, e2, l0, l1, l2, m7, m8, m9, m10⟩ := hM
  have hw3 := wix_3 (by decide) hw
  have hwl := pwe_le cc hbl
  have p0 : PO n ((pwe cc n b, 0, h) : PT) := ⟨hwl, by show 0 ≤ 3; omega, hh⟩
  have hE : hcl cc n ((a, 0, h), cl, d) = if cl = 60 ∨ hfull d 3 = true then ((b, 3, b), cl, d) else (psg cc n 59 (hck cc n 3 (pwe cc n b, 0, h) d).1, cl + 1, (hck cc n 3 (pwe cc n b, 0, h) d).2) := by unfold hcl; rw [hb, hw]
  by_cases c60 : cl = 60
  · have hc : cl = 60 ∨ hfull d 3 = true := Or.inl c60
    refine J_iload_n (pc := 5) dX11_clause_5 rfl ?_
    refine J_iconst (pc := 6) (v := -1) dX11_clause_6 (by decide) ?_
    refine J_icmp_ne (pc := 7) (tgt := 22) dX11_clause_7 (by decide) (fun c7 => ?_) (fun c7 => absurd c7 (by decide))
    refine J_aload_n (pc := 22) dX11_clause_22 rfl ?_
    refine J_geti (pc := 23) dX11_clause_23 kc11 fl_X11_159 rfl ?_
    refine J_t1 hc7 ?_
    refine J_bipush (pc := 26) (v := 60) dX11_clause_26 (by decide) ?_
    refine J_icmp_eq (pc := 28) (tgt := 49) dX11_clause_28 (by decide) (fun c28 => ?_) (fun c28 => absurd (show nI cl = 60 by rw [c60]; rfl) c28)
    refine J_aload_n (pc := 49) dX11_clause_49 rfl ?_
    refine J_iconst (pc := 50) (v := 3) dX11_clause_50 (by decide) ?_
    refine J_aload_n (pc := 51) dX11_clause_51 rfl ?_
    refine J_geti (pc := 52) dX11_clause_52 kc11 fl_X11_112 rfl ?_
    refine J_cvv (pc := 55) (N := mX11_wrong) dX11_clause_55 ml_X11_132 cf_X11_wrong cv_X11_wrong (r_wr (S := Y) (t := (b, 0, h)) (k := 3) (h := b) (show 0 ≤ 3 by decide) (by decide)) rfl rfl (Nat.le_of_ble_eq_true rfl) (by decide) (rv_of (ci := 11) rfl rfl rfl) ?_
    refine J_cg2 (S' := ps Y (b, 3, b)) (ps_same rfl) ?_
    refine J_aload_n (pc := 58) dX11_clause_58 rfl ?_
    refine J_geti (pc := 59) dX11_clause_59 kc11 fl_X11_119 rfl ?_
    refine J_if_eq (pc := 62) (tgt := 66) dX11_clause_62 (by decide) (fun c62 => absurd c62 (show ¬ nI 3 = 0 by decide)) (fun c62 => ?_)
    exact J_ret (pc := 65) rfl rfl dX11_clause_65 (hQ _ ⟨Y, by rw [hE, if_pos hc], hO, fun z => by rw [hE, if_pos hc] at z; exact absurd z (by show ¬ 3 = 0; omega)⟩)
  · have hc : ¬ (cl = 60 ∨ hfull d 3 = true) := by
      intro z
      rcases z with z | z
      · exact c60 z
      · unfold hfull at z
        simp at z
    rw [if_neg hc] at hE
    have hY0 : HO S (sF Y 59 7 (nI (cl + 1))) := HO_F hO
    have hx0 := HO_TX hY0 hx
    have pA : PO n (pnum cc n 0 d.1.length (pwe cc n b, 0, h)).2 := PO_num hx p0 0 _
    have pF : PO n (pnum cc n 0 d.1.length (pnum cc n 0 d.1.length (pwe cc n b, 0, h)).2).2 := PO_num hx pA 0 _
    by_cases qn : (pnum cc n 0 d.1.length (pnum cc n 0 d.1.length (pwe cc n b, 0, h)).2).2.2.1 = 0
    · have k2 := pnum_ok hn9 pA.1 qn
      have k1 := pnum_ok hn9 p0.1 k2.1
      have hu8 : (pnum cc n 0 d.1.length (pwe cc n b, 0, h)).1 < d.1.length := k1.2.2.2.2
      have hoF : HO S (sA (sF Y 59 7 (nI (cl + 1))) 66 (pnum cc n 0 d.1.length (pwe cc n b, 0, h)).1 (nI (pnum cc n 0 d.1.length (pnum cc n 0 d.1.length (pwe cc n b, 0, h)).2).1)) := HO_A hY0 rfl
      refine J_iload_n (pc := 5) dX11_clause_5 rfl ?_
      refine J_iconst (pc := 6) (v := -1) dX11_clause_6 (by decide) ?_
      refine J_icmp_ne (pc := 7) (tgt := 22) dX11_clause_7 (by decide) (fun c7 => ?_) (fun c7 => absurd c7 (by decide))
      refine J_aload_n (pc := 22) dX11_clause_22 rfl ?_
      refine J_geti (pc := 23) dX11_clause_23 kc11 fl_X11_159 rfl ?_
      refine J_t1 hc7 ?_
      refine J_bipush (pc := 26) (v := 60) dX11_clause_26 (by decide) ?_
      refine J_icmp_eq (pc := 28) (tgt := 49) dX11_clause_28 (by decide) (fun c28 => absurd c28 (fun z => c60 ((nI_eq (b := 60) (by omega) (by decide)).mp z))) (fun c28 => ?_)
      refine J_iload_n (pc := 31) dX11_clause_31 rfl ?_
      refine J_iconst (pc := 32) (v := 3) dX11_clause_32 (by decide) ?_
      refine J_icmp_ge (pc := 33) (tgt := 58) dX11_clause_33 (by decide) (fun c33 => ?_) (fun c33 => absurd (by decide) c33)
      refine J_aload_n (pc := 58) dX11_clause_58 rfl ?_
      refine J_geti (pc := 59) dX11_clause_59 kc11 fl_X11_119 rfl ?_
      refine J_if_eq (pc := 62) (tgt := 66) dX11_clause_62 (by decide) (fun c62 => ?_) (fun c62 => absurd (show nI 0 = 0 from rfl) c62)
      refine J_aload_n (pc := 66) dX11_clause_66 rfl ?_
      refine J_cvv (pc := 67) (N := mX11_skipWord) dX11_clause_67 ml_X11_156 cf_X11_skipWord cv_X11_skipWord (r_X11_skipWord (S := Y) (t := (b, 0, h)) hxy hbl) rfl rfl (Nat.le_of_ble_eq_true rfl) (by decide) (rv_of (ci := 11) rfl rfl rfl) ?_
      refine J_aload_n (pc := 70) dX11_clause_70 rfl ?_
      refine J_dup (pc := 71) dX11_clause_71 rfl ?_
      refine J_geti (pc := 72) dX11_clause_72 kc11 fl_X11_159 rfl ?_
      refine J_t1 (y := nI cl) hc7 ?_
      refine J_iconst (pc := 75) (v := 1) dX11_clause_75 (by decide) ?_
      refine J_iadd (pc := 76) dX11_clause_76 ?_
      refine J_t1 (nI_1 cl) ?_
      refine J_puti (pc := 77) dX11_clause_77 kc11 fl_X11_159 rfl ⟨rfl, rfl⟩ ?_
      refine J_cg2 (ps_sF Y _ (by decide) (by decide) (by decide)) ?_
      refine J_iload_n (pc := 80) dX11_clause_80 rfl ?_
      refine J_iconst (pc := 81) (v := 3) dX11_clause_81 (by decide) ?_
      refine J_icmp_ge (pc := 82) (tgt := 94) dX11_clause_82 (by decide) (fun c82 => ?_) (fun c82 => absurd (by decide) c82)
      refine J_iconst (pc := 94) (v := 0) dX11_clause_94 (by decide) ?_
      refine J_istore_n (pc := 95) dX11_clause_95 (by decide) rfl ?_
      refine J_iload_n (pc := 96) dX11_clause_96 rfl ?_
      refine J_tableOut (pc := 97) (tgt := 225) dX11_clause_97 (by decide) (by decide) ?_
      refine J_aload_n (pc := 225) dX11_clause_225 rfl ?_
      refine J_iconst (pc := 226) (v := 0) dX11_clause_226 (by decide) ?_
      refine J_aload_n (pc := 227) dX11_clause_227 rfl ?_
      refine J_getr (pc := 228) dX11_clause_228 kc11 fl_X11_20 rfl ?_
      refine J_iconst (pc := 231) (v := 0) dX11_clause_231 (by decide) ?_
      refine J_il (pc := 232) dX11_clause_232 (by first | rfl | assumption) (rfl : (0 : Int32) = nI 0) ⟨by first | decide | omega, by decide⟩ ?_
      refine J_t1 (y := nI d.1.length) e0 ?_
      refine J_iconst (pc := 233) (v := 1) dX11_clause_233 (by decide) ?_
      refine J_isub (pc := 234) dX11_clause_234 ?_
      refine J_cvr (pc := 235) (N := mX11_number) dX11_clause_235 ml_X11_175 cf_X11_number cv_X11_number (r_X11_number (S := (sF Y 59 7 (nI (cl + 1)))) (t := (pwe cc n b, 0, h)) (lo := 0) (hi := d.1.length) hx0 p0 rfl rfl (by decide) (by omega)) rfl rfl (Nat.le_of_ble_eq_true rfl) (by decide) (rv_of (ci := 11) rfl rfl rfl) ?_
      refine J_istore_n (pc := 238) dX11_clause_238 (by decide) rfl ?_
      refine J_aload_n (pc := 239) dX11_clause_239 rfl ?_
      refine J_iconst (pc := 240) (v := 0) dX11_clause_240 (by decide) ?_
      refine J_aload_n (pc := 241) dX11_clause_241 rfl ?_
      refine J_getr (pc := 242) dX11_clause_242 kc11 fl_X11_20 rfl ?_
      refine J_iconst (pc := 245) (v := 0) dX11_clause_245 (by decide) ?_
      refine J_il (pc := 246) dX11_clause_246 (by first | rfl | assumption) (rfl : (0 : Int32) = nI 0) ⟨by first | decide | omega, by decide⟩ ?_
      refine J_t1 (y := nI d.1.length) e0 ?_
      refine J_iconst (pc := 247) (v := 1) dX11_clause_247 (by decide) ?_
      refine J_isub (pc := 248) dX11_clause_248 ?_
      refine J_cvr (pc := 249) (N := mX11_number) dX11_clause_249 ml_X11_175 cf_X11_number cv_X11_number (r_X11_number (S := (sF Y 59 7 (nI (cl + 1)))) (t := (pnum cc n 0 d.1.length (pwe cc n b, 0, h)).2) (lo := 0) (hi := d.1.length) hx0 pA rfl rfl (by decide) (by omega)) rfl rfl (Nat.le_of_ble_eq_true rfl) (by decide) (rv_of (ci := 11) rfl rfl rfl) ?_
      refine J_istore (pc := 252) dX11_clause_252 (by decide) rfl ?_
      refine J_aload_n (pc := 254) dX11_clause_254 rfl ?_
      refine J_geti (pc := 255) dX11_clause_255 kc11 fl_X11_119 rfl ?_
      refine J_if_ne (pc := 258) (tgt := 272) dX11_clause_258 (by decide) (fun c258 => absurd (show nI (pnum cc n 0 d.1.length (pnum cc n 0 d.1.length (pwe cc n b, 0, h)).2).2.2.1 = 0 by rw [qn]; rfl) c258) (fun c258 => ?_)
      refine J_aload_n (pc := 261) dX11_clause_261 rfl ?_
      refine J_getr (pc := 262) dX11_clause_262 kc11 fl_X11_32 rfl ?_
      refine J_iload_n (pc := 265) dX11_clause_265 rfl ?_
      refine J_iload (pc := 266) dX11_clause_266 rfl ?_
      refine J_is (pc := 268) dX11_clause_268 (by first | rfl | assumption) rfl ⟨by first | decide | omega, by decide⟩ ?_
      refine J_cg2 (S' := ps (sA (sF Y 59 7 (nI (cl + 1))) 66 (pnum cc n 0 d.1.length (pwe cc n b, 0, h)).1 (nI (pnum cc n 0 d.1.length (pnum cc n 0 d.1.length (pwe cc n b, 0, h)).2).1)) (pnum cc n 0 d.1.length (pnum cc n 0 d.1.length (pwe cc n b, 0, h)).2).2) rfl ?_
      refine J_goto (pc := 269) (tgt := 272) dX11_clause_269 (by decide) ?_
      refine J_iload_n (pc := 272) dX11_clause_272 rfl ?_
      refine J_iconst (pc := 273) (v := 3) dX11_clause_273 (by decide) ?_
      refine J_icmp_ge (pc := 274) (tgt := 298) dX11_clause_274 (by decide) (fun c274 => ?_) (fun c274 => absurd (by decide) c274)
      refine J_aload_n (pc := 298) dX11_clause_298 rfl ?_
      refine J_bipush (pc := 299) (v := 59) dX11_clause_299 (by decide) ?_
      refine J_st (st' := [.int (nI 59), .ref 59]) rfl ?_
      refine J_cvv (pc := 301) (N := mX11_sign) dX11_clause_301 ml_X11_179 cf_X11_sign cv_X11_sign (r_X11_sign (S := (sA (sF Y 59 7 (nI (cl + 1))) 66 (pnum cc n 0 d.1.length (pwe cc n b, 0, h)).1 (nI (pnum cc n 0 d.1.length (pnum cc n 0 d.1.length (pwe cc n b, 0, h)).2).1))) (t := (pnum cc n 0 d.1.length (pnum cc n 0 d.1.length (pwe cc n b, 0, h)).2).2) (c := 59) (HO_TX hoF hx) pF (by decide)) rfl rfl (Nat.le_of_ble_eq_true rfl) (by decide) (rv_of (ci := 11) rfl rfl rfl) ?_
      exact J_ret (pc := 304) rfl rfl dX11_clause_304 (hQ _ ⟨(sA (sF Y 59 7 (nI (cl + 1))) 66 (pnum cc n 0 d.1.length (pwe cc n b, 0, h)).1 (nI (pnum cc n 0 d.1.length (pnum cc n 0 d.1.length (pwe cc n b, 0, h)).2).1)), by rw [hE]; rfl, hoF, fun _ => by rw [hE]; exact ⟨HM_3 (HM_F hM') _ _, rfl⟩⟩)
    · have hoF := hY0
      refine J_iload_n (pc := 5) dX11_clause_5 rfl ?_
      refine J_iconst (pc := 6) (v := -1) dX11_clause_6 (by decide) ?_
      refine J_icmp_ne (pc := 7) (tgt := 22) dX11_clause_7 (by decide) (fun c7 => ?_) (fun c7 => absurd c7 (by decide))
      refine J_aload_n (pc := 22) dX11_clause_22 rfl ?_
      refine J_geti (pc := 23) dX11_clause_23 kc11 fl_X11_159 rfl ?_
      refine J_t1 hc7 ?_
      refine J_bipush (pc := 26) (v := 60) dX11_clause_26 (by decide) ?_
      refine J_icmp_eq (pc := 28) (tgt := 49) dX11_clause_28 (by decide) (fun c28 => absurd c28 (fun z => c60 ((nI_eq (b := 60) (by omega) (by decide)).mp z))) (fun c28 => ?_)
      refine J_iload_n (pc := 31) dX11_clause_31 rfl ?_
      refine J_iconst (pc := 32) (v := 3) dX11_clause_32 (by decide) ?_
      refine J_icmp_ge (pc := 33) (tgt := 58) dX11_clause_33 (by decide) (fun c33 => ?_) (fun c33 => absurd (by decide) c33)
      refine J_aload_n (pc := 58) dX11_clause_58 rfl ?_
      refine J_geti (pc := 59) dX11_clause_59 kc11 fl_X11_119 rfl ?_
      refine J_if_eq (pc := 62) (tgt := 66) dX11_clause_62 (by decide) (fun c62 => ?_) (fun c62 => absurd (show nI 0 = 0 from rfl) c62)
      refine J_aload_n (pc := 66) dX11_clause_66 rfl ?_
      refine J_cvv (pc := 67) (N := mX11_skipWord) dX11_clause_67 ml_X11_156 cf_X11_skipWord cv_X11_skipWord (r_X11_skipWord (S := Y) (t := (b, 0, h)) hxy hbl) rfl rfl (Nat.le_of_ble_eq_true rfl) (by decide) (rv_of (ci := 11) rfl rfl rfl) ?_
      refine J_aload_n (pc := 70) dX11_clause_70 rfl ?_
      refine J_dup (pc := 71) dX11_clause_71 rfl ?_
      refine J_geti (pc := 72) dX11_clause_72 kc11 fl_X11_159 rfl ?_
      refine J_t1 (y := nI cl) hc7 ?_
      refine J_iconst (pc := 75) (v := 1) dX11_clause_75 (by decide) ?_
      refine J_iadd (pc := 76) dX11_clause_76 ?_
      refine J_t1 (nI_1 cl) ?_
      refine J_puti (pc := 77) dX11_clause_77 kc11 fl_X11_159 rfl ⟨rfl, rfl⟩ ?_
      refine J_cg2 (ps_sF Y _ (by decide) (by decide) (by decide)) ?_
      refine J_iload_n (pc := 80) dX11_clause_80 rfl ?_
      refine J_iconst (pc := 81) (v := 3) dX11_clause_81 (by decide) ?_
      refine J_icmp_ge (pc := 82) (tgt := 94) dX11_clause_82 (by decide) (fun c82 => ?_) (fun c82 => absurd (by decide) c82)
      refine J_iconst (pc := 94) (v := 0) dX11_clause_94 (by decide) ?_
      refine J_istore_n (pc := 95) dX11_clause_95 (by decide) rfl ?_
      refine J_iload_n (pc := 96) dX11_clause_96 rfl ?_
      refine J_tableOut (pc := 97) (tgt := 225) dX11_clause_97 (by decide) (by decide) ?_
      refine J_aload_n (pc := 225) dX11_clause_225 rfl ?_
      refine J_iconst (pc := 226) (v := 0) dX11_clause_226 (by decide) ?_
      refine J_aload_n (pc := 227) dX11_clause_227 rfl ?_
      refine J_getr (pc := 228) dX11_clause_228 kc11 fl_X11_20 rfl ?_
      refine J_iconst (pc := 231) (v := 0) dX11_clause_231 (by decide) ?_
      refine J_il (pc := 232) dX11_clause_232 (by first | rfl | assumption) (rfl : (0 : Int32) = nI 0) ⟨by first | decide | omega, by decide⟩ ?_
      refine J_t1 (y := nI d.1.length) e0 ?_
      refine J_iconst (pc := 233) (v := 1) dX11_clause_233 (by decide) ?_
      refine J_isub (pc := 234) dX11_clause_234 ?_
      refine J_cvr (pc := 235) (N := mX11_number) dX11_clause_235 ml_X11_175 cf_X11_number cv_X11_number (r_X11_number (S := (sF Y 59 7 (nI (cl + 1)))) (t := (pwe cc n b, 0, h)) (lo := 0) (hi := d.1.length) hx0 p0 rfl rfl (by decide) (by omega)) rfl rfl (Nat.le_of_ble_eq_true rfl) (by decide) (rv_of (ci := 11) rfl rfl rfl) ?_
      refine J_istore_n (pc := 238) dX11_clause_238 (by decide) rfl ?_
      refine J_aload_n (pc := 239) dX11_clause_239 rfl ?_
      refine J_iconst (pc := 240) (v := 0) dX11_clause_240 (by decide) ?_
      refine J_aload_n (pc := 241) dX11_clause_241 rfl ?_
      refine J_getr (pc := 242) dX11_clause_242 kc11 fl_X11_20 rfl ?_
      refine J_iconst (pc := 245) (v := 0) dX11_clause_245 (by decide) ?_
      refine J_il (pc := 246) dX11_clause_246 (by first | rfl | assumption) (rfl : (0 : Int32) = nI 0) ⟨by first | decide | omega, by decide⟩ ?_
      refine J_t1 (y := nI d.1.length) e0 ?_
      refine J_iconst (pc := 247) (v := 1) dX11_clause_247 (by decide) ?_
      refine J_isub (pc := 248) dX11_clause_248 ?_
      refine J_cvr (pc := 249) (N := mX11_number) dX11_clause_249 ml_X11_175 cf_X11_number cv_X11_number (r_X11_number (S := (sF Y 59 7 (nI (cl + 1)))) (t := (pnum cc n 0 d.1.length (pwe cc n b, 0, h)).2) (lo := 0) (hi := d.1.length) hx0 pA rfl rfl (by decide) (by omega)) rfl rfl (Nat.le_of_ble_eq_true rfl) (by decide) (rv_of (ci := 11) rfl rfl rfl) ?_
      refine J_istore (pc := 252) dX11_clause_252 (by decide) rfl ?_
      refine J_aload_n (pc := 254) dX11_clause_254 rfl ?_
      refine J_geti (pc := 255) dX11_clause_255 kc11 fl_X11_119 rfl ?_
      refine J_if_ne (pc := 258) (tgt := 272) dX11_clause_258 (by decide) (fun c258 => ?_) (fun c258 => absurd c258 (fun z => qn ((nI_z pF.2.1).mp z)))
      refine J_iload_n (pc := 272) dX11_clause_272 rfl ?_
      refine J_iconst (pc := 273) (v := 3) dX11_clause_273 (by decide) ?_
      refine J_icmp_ge (pc := 274) (tgt := 298) dX11_clause_274 (by decide) (fun c274 => ?_) (fun c274 => absurd (by decide) c274)
      refine J_aload_n (pc := 298) dX11_clause_298 rfl ?_
      refine J_bipush (pc := 299) (v := 59) dX11_clause_299 (by decide) ?_
      refine J_st (st' := [.int (nI 59), .ref 59]) rfl ?_
      refine J_cvv (pc := 301) (N := mX11_sign) dX11_clause_301 ml_X11_179 cf_X11_sign cv_X11_sign (r_X11_sign (S := (sF Y 59 7 (nI (cl + 1)))) (t := (pnum cc n 0 d.1.length (pnum cc n 0 d.1.length (pwe cc n b, 0, h)).2).2) (c := 59) (HO_TX hoF hx) pF (by decide)) rfl rfl (Nat.le_of_ble_eq_true rfl) (by decide) (rv_of (ci := 11) rfl rfl rfl) ?_
      exact J_ret (pc := 304) rfl rfl dX11_clause_304 (hQ _ ⟨(sF Y 59 7 (nI (cl + 1))), by rw [hE]; rfl, hoF, fun z => by rw [hE] at z; exact absurd (psg_ok (show (psg cc n 59 (pnum cc n 0 d.1.length (pnum cc n 0 d.1.length (pwe cc n b, 0, h)).2).2).2.1 = 0 from z)).1 qn⟩)
theorem r_X11_clause {g : Gp} {n : Nat} {cc : Nat → Nat} {S Y : Sx} {a b h cl : Nat} {d : HD} (hx : TX S n cc) (hO : HO S Y) (hM : HM Y d) (hc7 : sf Y 59 7 = nI cl) (hcl60 : cl ≤ 60) (ha : a ≤ n) (hh : h ≤ n) (hb : pbl cc n a = b) : RU g mX11_clause 6 [.ref 59] (ps Y (a, 0, h)) (fun X => ∃ Y', X = ps Y' (hcl cc n ((a, 0, h), cl, d)).1 ∧ HO S Y' ∧ ((hcl cc n ((a, 0, h), cl, d)).1.2.1 = 0 → HM Y' (hcl cc n ((a, 0, h), cl, d)).2.2 ∧ sf Y' 59 7 = nI (hcl cc n ((a, 0, h), cl, d)).2.1)) := by
  refine RU_ofQ ⟨rfl, rfl⟩ (Nat.le_of_ble_eq_true rfl) (fun sz Q hQ => ?_)
  have hxy := HO_TX hO hx
  have hbl : b ≤ n := by rw [← hb]; exact pbl_le cc ha
  refine J_aload_n (pc := 0) dX11_clause_0 rfl ?_
  refine J_cvr (pc := 1) (N := mX11_kindHere) dX11_clause_1 ml_X11_169 cf_X11_kindHere cv_X11_kindHere (r_X11_kindHere (S := Y) (a := a) (b := b) (h := h) hxy ha hb) rfl rfl (Nat.le_of_ble_eq_true rfl) (by decide) (rv_of (ci := 11) rfl rfl rfl) ?_
  cases hw : wix cc n b wHou 0
  · have hE : hcl cc n ((a, 0, h), cl, d) = ((b, 1, b), cl, d) := by unfold hcl; rw [hb, hw]
    refine J_t1 (y := -1) rfl ?_
    refine J_istore_n (pc := 4) dX11_clause_4 (by decide) rfl ?_
    refine J_iload_n (pc := 5) dX11_clause_5 rfl ?_
    refine J_iconst (pc := 6) (v := -1) dX11_clause_6 (by decide) ?_
    refine J_icmp_ne (pc := 7) (tgt := 22) dX11_clause_7 (by decide) (fun c7 => absurd rfl c7) (fun c7 => ?_)
    refine J_aload_n (pc := 10) dX11_clause_10 rfl ?_
    refine J_iconst (pc := 11) (v := 1) dX11_clause_11 (by decide) ?_
    refine J_aload_n (pc := 12) dX11_clause_12 rfl ?_
    refine J_geti (pc := 13) dX11_clause_13 kc11 fl_X11_112 rfl ?_
    refine J_cvv (pc := 16) (N := mX11_wrong) dX11_clause_16 ml_X11_132 cf_X11_wrong cv_X11_wrong (r_wr (S := Y) (t := (b, 0, h)) (k := 1) (h := b) (show 0 ≤ 3 by decide) (by decide)) rfl rfl (Nat.le_of_ble_eq_true rfl) (by decide) (rv_of (ci := 11) rfl rfl rfl) ?_
    refine J_cg2 (S' := ps Y (b, 1, b)) (ps_same rfl) ?_
    refine J_goto (pc := 19) (tgt := 58) dX11_clause_19 (by decide) ?_
    refine J_aload_n (pc := 58) dX11_clause_58 rfl ?_
    refine J_geti (pc := 59) dX11_clause_59 kc11 fl_X11_119 rfl ?_
    refine J_if_eq (pc := 62) (tgt := 66) dX11_clause_62 (by decide) (fun c62 => absurd c62 (show ¬ nI 1 = 0 by decide)) (fun c62 => ?_)
    exact J_ret (pc := 65) rfl rfl dX11_clause_65 (hQ _ ⟨Y, by rw [hE], hO, fun z => by rw [hE] at z; exact absurd z (by show ¬ 1 = 0; omega)⟩)
  · next k =>
    have hk4 := (wix_lt hw).2
    have hk4 : k < 4 := hk4
    obtain rfl | rfl | rfl | rfl : k = 0 ∨ k = 1 ∨ k = 2 ∨ k = 3 := by omega
    · skip
      refine J_t1 (y := 0) rfl ?_
      refine J_istore_n (pc := 4) dX11_clause_4 (by decide) rfl ?_
      exact cla_0 hx hO hM hc7 hcl60 ha hh hb hw hQ
    · skip
      refine J_t1 (y := 1) rfl ?_
      refine J_istore_n (pc := 4) dX11_clause_4 (by decide) rfl ?_
      exact cla_1 hx hO hM hc7 hcl60 ha hh hb hw hQ
    · skip
      refine J_t1 (y := 2) rfl ?_
      refine J_istore_n (pc := 4) dX11_clause_4 (by decide) rfl ?_
      exact cla_2 hx hO hM hc7 hcl60 ha hh hb hw hQ
    · skip
      refine J_t1 (y := 3) rfl ?_
      refine J_istore_n (pc := 4) dX11_clause_4 (by decide) rfl ?_
      exact cla_3 hx hO hM hc7 hcl60 ha hh hb hw hQ

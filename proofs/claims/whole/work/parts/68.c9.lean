/-! ===== System.arraycopy between two rows of ints ===== -/
set_option maxRecDepth 100000 in
theorem nt_acp : InT (.native arraycopyName) := ⟨List.mem_of_getElem? (i := 557) rfl, rfl⟩
set_option maxRecDepth 100000 in
theorem st_acp : InT (.static arraycopyName) := ⟨List.mem_of_getElem? (i := 556) rfl, rfl⟩
set_option maxRecDepth 100000 in
theorem in_acp : InT (.initialized "java/lang/System") := ⟨List.mem_of_getElem? (i := 169) rfl, rfl⟩
set_option maxRecDepth 100000 in
theorem ml_acp5 : InT (.methodLink RX5 23 arraycopyName) := ⟨List.mem_of_getElem? (i := 555) rfl, rfl⟩
set_option maxRecDepth 100000 in
theorem ml_acp0 : InT (.methodLink RX0 40 arraycopyName) := ⟨List.mem_of_getElem? (i := 1365) rfl, rfl⟩
theorem hup_AA {S : Sx} {a n : Nat} {u : Row} (hl : lay a = some (.inr (0, n, 0, 0))) : hup (hs S) a (.inl (0, n, .inl u)) = hs (sAA S a u) := by
  refine hup_hs hl ?_ (fun b d' hb _ => inst_other d' (fun _ => rfl) (fun _ => rfl) (if_neg hb) rfl rfl)
  show Sum.inl (0, n, Sum.inl (if a = a then u else sa S a)) = _
  rw [if_pos rfl]
section JCP
variable {g : Gp} {M : Mt} {d : Nat} {tb : List ExceptionTableEntry} {pc idx : Nat} {ls ls' : List (Option Value)} {st : List Value} {S : Sx} {sz kc ks : Nat} {Q : Po}
theorem nfw_acp : nativeFrameWords "java/lang/System" "arraycopy" 5 + 11 ≤ 100 := by decide
theorem acp_loc {n d L w : Nat} (h : n ≤ 8) (hw : w ≤ 100) (hR : 60 * (d + 8) ≤ L) : n + w ≤ L := by omega
theorem J_acp {a0 a1 n0 n1 i0 i1 n : Nat} {x0 x1 xn : Int32} (hd : decode M.2.1 pc = .ok (.invokestatic idx, 3)) (hm : InT (.methodLink M.1.cls idx arraycopyName)) (hl0 : lay a0 = some (.inr (0, n0, 0, 0))) (hl1 : lay a1 = some (.inr (0, n1, 0, 0))) (e0 : x0 = nI i0) (e1 : x1 = nI i1) (en : xn = nI n) (h0 : i0 + n ≤ n0 ∧ n0 < 2 ^ 31) (h1 : i1 + n ≤ n1 ∧ n1 < 2 ^ 31) (hcat : (st.map fun v => v.category).sum ≤ 8)
    (k : J g M d tb (pc + 3) ls st (hs (sAA S a1 (va_cpy (sa S a0) (sa S a1) i0 i1 n))) sz kc ks Q) : J g M d tb pc ls (.int xn :: .int x1 :: .ref a1 :: .int x0 :: .ref a0 :: st) (hs S) sz kc ks Q := by
  subst e0
  subst e1
  subst en
  intro p e s m args below meth c R mc ms QF C0 E H locs cells slots la hH hS hl q1 q2
  have hk := k p e s m args below meth c R mc ms QF C0 E
  obtain ⟨c1, c2, c3, c4, c5, c6, c7, c8, c9, c10, c11, c12, c13⟩ := C0
  have ha0 : hs S a0 = some (.inl (0, n0, .inl (sa S a0))) := hs_at hl0
  have ha1 : hs S a1 = some (.inl (0, n1, .inl (sa S a1))) := hs_at hl1
  rw [List.map_cons, List.map_cons, List.map_cons, List.map_cons, List.map_cons, cv_ref, cv_ref, cv_int, cv_int, cv_int, ab_of hH ha0, ab_of hH ha1]
  have hlt1 : gB g + a1 < H.size := (Array.getElem?_eq_some_iff.mp (hH.2 a1 _ ha1).2).1
  have hc0 : H[gB g + a0]? = some (vp_cell (gA g 0) (n0, .inl (sa S a0))) := (hH.2 a0 _ ha0).2
  have hc1 : H[gB g + a1]? = some (vp_cell (gA g 0) (n1, .inl (sa S a1))) := (hH.2 a1 _ ha1).2
  obtain ⟨-, k0, hk0, cm0, hkk0⟩ := (c7.1.2 0 _ (ty0 g)).1 n0 (fun j => .int (sa S a0 j))
  obtain ⟨-, k1, hk1, cm1, hkk1⟩ := (c7.1.2 0 _ (ty0 g)).1 n1 (fun j => .int (sa S a1 j))
  have t0 : (nI i0).toInt = (i0 : Int) := nI_toInt (by omega)
  have t1 : (nI i1).toInt = (i1 : Int) := nI_toInt (by omega)
  have tn : (nI n).toInt = (n : Int) := nI_toInt (by omega)
  have u0 : (nI i0).toNatClampNeg = i0 := nI_clamp (by omega)
  have u1 : (nI i1).toNatClampNeg = i1 := nI_clamp (by omega)
  have un : (nI n).toNatClampNeg = n := nI_clamp (by omega)
  intro T hT X
  obtain ⟨vm', X', step⟩ := X.arraycopy c1 c5 (c7.2.1.good hm.1 hm.2) (c7.2.1.good nt_acp.1 nt_acp.2) (c7.2.1.good st_acp.1 st_acp.2) (c7.2.1.good in_acp.1 in_acp.2) (src := gB g + a0) (dst := gB g + a1) (cs := vp_cell (gA g 0) (n0, .inl (sa S a0))) (cd := vp_cell (gA g 0) (n1, .inl (sa S a1))) (srcPos := nI i0) (destPos := nI i1) (n := nI n) (by rw [hT]; exact hc0) (by rw [hT]; exact hc1)
    (fun _ h => by cases h) (fun _ h => by cases h) (fun h => by cases h) (fun h => by cases h) hk0 hk1 hkk0 hkk1 (by rfl) (nI_pos (by omega)) (nI_pos (by omega)) (nI_pos (by omega))
    (by rw [t0, tn]; show ¬ _ > ((arrV (gA g 0) n0 (fun j => .int (sa S a0 j))).slots.size : Int); rw [arrV_size]; omega)
    (by rw [t1, tn]; show ¬ _ > ((arrV (gA g 0) n1 (fun j => .int (sa S a1 j))).slots.size : Int); rw [arrV_size]; omega)
    (fun vm₁ _ i hi => by
      rw [un] at hi
      have ee : (vp_cell (gA g 0) (n0, .inl (sa S a0))).slots.getD ((nI i0).toNatClampNeg + i) .null = .int (sa S a0 (i0 + i)) := by
        show (arrV (gA g 0) n0 (fun j => .int (sa S a0 j))).slots.getD _ _ = _
        rw [u0, Array.getD_eq_getD_getElem?, arrV_read _ _ (by omega)]
        rfl
      refine ⟨?_, ?_⟩
      · rw [ee]
        rfl
      · rw [ee]
        exact trivial)
    (g := F0 m pc la (.int (nI n) :: .int (nI i1) :: .ref (gB g + a1) :: .int (nI i0) :: .ref (gB g + a0) :: st.map (cv g))) rfl (by rw [hl.1, c3]) (rest := st.map (cv g)) rfl (by rw [c2]; exact hd) (by omega) (by have := acp_loc hcat nfw_acp c9; show 2 * 0 + ((st.map (cv g)).map fun v => v.category).sum + _ ≤ _; rw [cat_map]; omega)
  have e1 : copied (vp_cell (gA g 0) (n0, .inl (sa S a0))) (vp_cell (gA g 0) (n1, .inl (sa S a1))) (nI i0) (nI i1) (nI n) = vp_cell (gA g 0) (n1, .inl (va_cpy (sa S a0) (sa S a1) i0 i1 n)) := by
    unfold copied
    rw [u0, u1, un]
    exact va_copied (fun z => .int z) (gA g 0) (gA g 0) (sa S a0) (sa S a1) (by omega)
  rw [e1] at X' step
  have hheap : ((T.setVm vm').setCell (gB g + a1) (vp_cell (gA g 0) (n1, .inl (va_cpy (sa S a0) (sa S a1) i0 i1 n)))).heap = H.setIfInBounds (gB g + a1) (vp_cell (gA g 0) (n1, .inl (va_cpy (sa S a0) (sa S a1) i0 i1 n))) := by rw [← hT]; rfl
  have oq : ∀ q : Nat, q ≠ gB g + a1 → (H.setIfInBounds (gB g + a1) (vp_cell (gA g 0) (n1, .inl (va_cpy (sa S a0) (sa S a1) i0 i1 n))))[q]? = H[q]? := fun q hq => by simp [Array.getElem?_setIfInBounds, Ne.symm hq]
  have hnew := Hr.put (e := .inl (0, n1, .inl (va_cpy (sa S a0) (sa S a1) i0 i1 n))) hH (hH.2 a1 _ ha1).1 (H1 := H.setIfInBounds (gB g + a1) (vp_cell (gA g 0) (n1, .inl (va_cpy (sa S a0) (sa S a1) i0 i1 n)))) (by simp) (show (H.setIfInBounds (gB g + a1) _)[gB g + a1]? = some _ by simp [Array.getElem?_setIfInBounds, hlt1]; rfl) oq
  rw [hup_AA hl1] at hnew
  obtain ⟨t, z1, z2⟩ := hk _ _ cells slots la hnew ⟨by simp; exact hS.1, fun q g1 g2 => by
      rw [oq q (fun ez => g2 (by rw [ez]; show gB g ≤ _; omega))]
      exact hS.2.1 q g1 g2, fun q hq => by
      rcases List.mem_append.mp hq with h | h
      · exact hS.2.2 q h
      · obtain ⟨z, -, hz⟩ := List.mem_map.mp h
        rw [← hz]
        show gB g ≤ gB g + a1
        omega⟩ hl q1 q2 _ hheap X'
  exact ⟨t, step t z1, z2⟩
end JCP

theorem r_X11_has {g : Gp} {S : Sx} {b : Int32} {k : Int32} : RT g mX11_has 0 [.int b, .int k] S (some (.int (bI (decide (b >>> (k &&& 31) &&& 1 = 1))))) S := by
  refine RT_ofQ ⟨rfl, rfl⟩ (Nat.le_of_ble_eq_true rfl) (fun sz Q hQ => ?_)
  refine J_iload_n (pc := 0) dX11_has_0 rfl ?_
  refine J_iload_n (pc := 1) dX11_has_1 rfl ?_
  refine J_ishr (pc := 2) dX11_has_2 ?_
  refine J_iconst (pc := 3) (v := 1) dX11_has_3 (by decide) ?_
  refine J_iand (pc := 4) dX11_has_4 ?_
  refine J_iconst (pc := 5) (v := 1) dX11_has_5 (by decide) ?_
  refine J_icmp_ne (pc := 6) (tgt := 13) dX11_has_6 (by decide) (fun c6 => ?_) (fun c6 => ?_)
  · refine J_iconst (pc := 13) (v := 0) dX11_has_13 (by decide) ?_
    exact J_iret (pc := 14) rfl rfl rfl dX11_has_14 (rq hQ (by first | rfl | simp [bI, *] | simp_all [bI]) rfl)
  · refine J_iconst (pc := 9) (v := 1) dX11_has_9 (by decide) ?_
    refine J_goto (pc := 10) (tgt := 14) dX11_has_10 (by decide) ?_
    exact J_iret (pc := 14) rfl rfl rfl dX11_has_14 (rq hQ (by first | rfl | simp [bI, *] | simp_all [bI]) rfl)
theorem r_X11_isKept {g : Gp} {S : Sx} {a r : Nat} (ha : lay a = some (.inr (0, 45, 0, 0))) (hr : r < 10) : RT g mX11_isKept 0 [.ref a, .int (nI r)] S (some (.int (bI (decide (sa S a (16 + r) ≠ -1))))) S := by
  refine RT_ofQ ⟨rfl, rfl⟩ (Nat.le_of_ble_eq_true rfl) (fun sz Q hQ => ?_)
  refine J_aload_n (pc := 0) dX11_isKept_0 rfl ?_
  refine J_bipush (pc := 1) (v := 16) dX11_isKept_1 (by decide) ?_
  refine J_iload_n (pc := 3) dX11_isKept_3 rfl ?_
  refine J_iadd (pc := 4) dX11_isKept_4 ?_
  refine J_il (pc := 5) dX11_isKept_5 (by first | rfl | assumption) (by first | exact nI_add 16 _ | (rw [ix_nI]; exact nI_add 16 _)) ⟨by first | decide | omega, by decide⟩ ?_
  refine J_iconst (pc := 6) (v := -1) dX11_isKept_6 (by decide) ?_
  refine J_icmp_eq (pc := 7) (tgt := 14) dX11_isKept_7 (by decide) (fun c7 => ?_) (fun c7 => ?_)
  · refine J_iconst (pc := 14) (v := 0) dX11_isKept_14 (by decide) ?_
    exact J_iret (pc := 15) rfl rfl rfl dX11_isKept_15 (rq hQ (by first | rfl | simp [bI, *] | simp_all [bI]) rfl)
  · refine J_iconst (pc := 10) (v := 1) dX11_isKept_10 (by decide) ?_
    refine J_goto (pc := 11) (tgt := 15) dX11_isKept_11 (by decide) ?_
    exact J_iret (pc := 15) rfl rfl rfl dX11_isKept_15 (rq hQ (by first | rfl | simp [bI, *] | simp_all [bI]) rfl)

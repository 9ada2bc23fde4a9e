def byv (w : Nat) (u v : Int32) : Int32 := match w with
  | 2 => u + v
  | 3 => u - v
  | 4 => u * v
  | 5 => if v = 0 then 0 else u / v
  | 6 => if v = 0 then 0 else u - u / v * v
  | 7 => if u < v then u else v
  | _ => if v < u then u else v
theorem div_m1 (u : Int32) : u / (-1) = -u := by
  apply Int32.toInt_inj.mp
  rw [Int32.toInt_div, show (-1 : Int32).toInt = -1 from rfl, Int.tdiv_neg, Int.tdiv_one, ← Int32.toInt_neg]
theorem rem_m1 (u : Int32) : u - u / (-1) * (-1) = 0 := by
  rw [div_m1]
  apply Int32.toBitVec_inj.mp
  show u.toBitVec - -u.toBitVec * 4294967295#32 = 0#32
  bv_omega
theorem r_X11_by {g : Gp} {S : Sx} {w : Nat} {u v : Int32} (h : 2 ≤ w ∧ w ≤ 8) : RT g mX11_by 1 [.int (nI w), .int u, .int v] S (some (.int (byv w u v))) S := by
  refine RT_ofQ ⟨rfl, rfl⟩ (Nat.le_of_ble_eq_true rfl) (fun sz Q hQ => ?_)
  obtain rfl | rfl | rfl | rfl | rfl | rfl | rfl : w = 2 ∨ w = 3 ∨ w = 4 ∨ w = 5 ∨ w = 6 ∨ w = 7 ∨ w = 8 := by omega
  · refine J_iload_n (pc := 0) dX11_by_0 rfl ?_
    refine J_tableIn (pc := 1) (off := 39) (tgt := 40) dX11_by_1 (by decide) (by decide) (by decide) (by decide) ?_
    refine J_iload_n (pc := 40) dX11_by_40 rfl ?_
    refine J_iload_n (pc := 41) dX11_by_41 rfl ?_
    refine J_iadd (pc := 42) dX11_by_42 ?_
    exact J_iret (pc := 43) rfl rfl rfl dX11_by_43 (rq hQ rfl rfl)
  · refine J_iload_n (pc := 0) dX11_by_0 rfl ?_
    refine J_tableIn (pc := 1) (off := 43) (tgt := 44) dX11_by_1 (by decide) (by decide) (by decide) (by decide) ?_
    refine J_iload_n (pc := 44) dX11_by_44 rfl ?_
    refine J_iload_n (pc := 45) dX11_by_45 rfl ?_
    refine J_isub (pc := 46) dX11_by_46 ?_
    exact J_iret (pc := 47) rfl rfl rfl dX11_by_47 (rq hQ (by first | rfl | simp [bI, *] | simp_all [bI]) rfl)
  · refine J_iload_n (pc := 0) dX11_by_0 rfl ?_
    refine J_tableIn (pc := 1) (off := 47) (tgt := 48) dX11_by_1 (by decide) (by decide) (by decide) (by decide) ?_
    refine J_iload_n (pc := 48) dX11_by_48 rfl ?_
    refine J_iload_n (pc := 49) dX11_by_49 rfl ?_
    refine J_imul (pc := 50) dX11_by_50 ?_
    exact J_iret (pc := 51) rfl rfl rfl dX11_by_51 (rq hQ (by first | rfl | simp [bI, *] | simp_all [bI]) rfl)
  · refine J_iload_n (pc := 0) dX11_by_0 rfl ?_
    refine J_tableIn (pc := 1) (off := 51) (tgt := 52) dX11_by_1 (by decide) (by decide) (by decide) (by decide) ?_
    refine J_iload_n (pc := 52) dX11_by_52 rfl ?_
    refine J_if_ne (pc := 53) (tgt := 60) dX11_by_53 (by decide) (fun c53 => ?_) (fun c53 => ?_)
    · refine J_iload_n (pc := 60) dX11_by_60 rfl ?_
      refine J_iconst (pc := 61) (v := -1) dX11_by_61 (by decide) ?_
      refine J_icmp_ne (pc := 62) (tgt := 70) dX11_by_62 (by decide) (fun c62 => ?_) (fun c62 => ?_)
      · refine J_iload_n (pc := 70) dX11_by_70 rfl ?_
        refine J_iload_n (pc := 71) dX11_by_71 rfl ?_
        refine J_idiv (pc := 72) dX11_by_72 (by assumption) ?_
        exact J_iret (pc := 73) rfl rfl rfl dX11_by_73 (rq hQ (by simp only [byv]; first | rw [if_pos c53] | (rw [c62, if_neg (by decide), div_m1]; done) | rw [if_neg c53]) rfl)
      · refine J_iload_n (pc := 65) dX11_by_65 rfl ?_
        refine J_ineg (pc := 66) dX11_by_66 ?_
        refine J_goto (pc := 67) (tgt := 73) dX11_by_67 (by decide) ?_
        exact J_iret (pc := 73) rfl rfl rfl dX11_by_73 (rq hQ (by simp only [byv]; first | rw [if_pos c53] | (rw [c62, if_neg (by decide), div_m1]; done) | rw [if_neg c53]) rfl)
    · refine J_iconst (pc := 56) (v := 0) dX11_by_56 (by decide) ?_
      refine J_goto (pc := 57) (tgt := 73) dX11_by_57 (by decide) ?_
      exact J_iret (pc := 73) rfl rfl rfl dX11_by_73 (rq hQ (by simp only [byv]; first | rw [if_pos c53] | (rw [c62, if_neg (by decide), div_m1]; done) | rw [if_neg c53]) rfl)
  · refine J_iload_n (pc := 0) dX11_by_0 rfl ?_
    refine J_tableIn (pc := 1) (off := 73) (tgt := 74) dX11_by_1 (by decide) (by decide) (by decide) (by decide) ?_
    refine J_iload_n (pc := 74) dX11_by_74 rfl ?_
    refine J_if_eq (pc := 75) (tgt := 83) dX11_by_75 (by decide) (fun c75 => ?_) (fun c75 => ?_)
    · refine J_iconst (pc := 83) (v := 0) dX11_by_83 (by decide) ?_
      refine J_goto (pc := 84) (tgt := 90) dX11_by_84 (by decide) ?_
      exact J_iret (pc := 90) rfl rfl rfl dX11_by_90 (rq hQ (by simp only [byv]; first | rw [if_pos c75] | (rw [c80, if_neg (by decide), rem_m1]; done) | rw [if_neg c75]) rfl)
    · refine J_iload_n (pc := 78) dX11_by_78 rfl ?_
      refine J_iconst (pc := 79) (v := -1) dX11_by_79 (by decide) ?_
      refine J_icmp_ne (pc := 80) (tgt := 87) dX11_by_80 (by decide) (fun c80 => ?_) (fun c80 => ?_)
      · refine J_iload_n (pc := 87) dX11_by_87 rfl ?_
        refine J_iload_n (pc := 88) dX11_by_88 rfl ?_
        refine J_irem (pc := 89) dX11_by_89 (by assumption) ?_
        exact J_iret (pc := 90) rfl rfl rfl dX11_by_90 (rq hQ (by simp only [byv]; first | rw [if_pos c75] | (rw [c80, if_neg (by decide), rem_m1]; done) | rw [if_neg c75]) rfl)
      · refine J_iconst (pc := 83) (v := 0) dX11_by_83 (by decide) ?_
        refine J_goto (pc := 84) (tgt := 90) dX11_by_84 (by decide) ?_
        exact J_iret (pc := 90) rfl rfl rfl dX11_by_90 (rq hQ (by simp only [byv]; first | rw [if_pos c75] | (rw [c80, if_neg (by decide), rem_m1]; done) | rw [if_neg c75]) rfl)
  · refine J_iload_n (pc := 0) dX11_by_0 rfl ?_
    refine J_tableIn (pc := 1) (off := 90) (tgt := 91) dX11_by_1 (by decide) (by decide) (by decide) (by decide) ?_
    refine J_iload_n (pc := 91) dX11_by_91 rfl ?_
    refine J_iload_n (pc := 92) dX11_by_92 rfl ?_
    refine J_csr (pc := 93) (N := mX11_less) dX11_by_93 ml_X11_245 cf_X11_less cs_X11_less r_X11_less rfl rfl (Nat.le_of_ble_eq_true rfl) (by decide) ?_
    exact J_iret (pc := 96) rfl rfl rfl dX11_by_96 (rq hQ rfl rfl)
  · refine J_iload_n (pc := 0) dX11_by_0 rfl ?_
    refine J_tableOut (pc := 1) (tgt := 97) dX11_by_1 (by decide) (by decide) ?_
    refine J_iload_n (pc := 97) dX11_by_97 rfl ?_
    refine J_iload_n (pc := 98) dX11_by_98 rfl ?_
    refine J_csr (pc := 99) (N := mX11_more) dX11_by_99 ml_X11_248 cf_X11_more cs_X11_more r_X11_more rfl rfl (Nat.le_of_ble_eq_true rfl) (by decide) ?_
    exact J_iret (pc := 102) rfl rfl rfl dX11_by_102 (rq hQ rfl rfl)

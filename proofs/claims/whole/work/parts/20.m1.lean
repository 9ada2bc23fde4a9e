theorem r_X11_in {g : Gp} {S : Sx} {v lo hi : Int32} : RT g mX11_in 0 [.int v, .int lo, .int hi] S (some (.int (bI (decide (lo ≤ v ∧ v ≤ hi))))) S := by
  refine RT_ofQ ⟨rfl, rfl⟩ (Nat.le_of_ble_eq_true rfl) (fun sz Q hQ => ?_)
  refine J_iload_n (pc := 0) dX11_in_0 rfl ?_
  refine J_iload_n (pc := 1) dX11_in_1 rfl ?_
  refine J_icmp_lt (pc := 2) (tgt := 14) dX11_in_2 (by decide) (fun c2 => ?_) (fun c2 => ?_)
  · refine J_iconst (pc := 14) (v := 0) dX11_in_14 (by decide) ?_
    exact J_iret (pc := 15) rfl rfl rfl dX11_in_15 (rq hQ (by simp only [Int32.lt_iff_toInt_lt, Int32.le_iff_toInt_le, bI, decide_eq_true_eq] at *; (repeat' split) <;> first | rfl | (exfalso; omega)) rfl)
  · refine J_iload_n (pc := 5) dX11_in_5 rfl ?_
    refine J_iload_n (pc := 6) dX11_in_6 rfl ?_
    refine J_icmp_gt (pc := 7) (tgt := 14) dX11_in_7 (by decide) (fun c7 => ?_) (fun c7 => ?_)
    · refine J_iconst (pc := 14) (v := 0) dX11_in_14 (by decide) ?_
      exact J_iret (pc := 15) rfl rfl rfl dX11_in_15 (rq hQ (by simp only [Int32.lt_iff_toInt_lt, Int32.le_iff_toInt_le, bI, decide_eq_true_eq] at *; (repeat' split) <;> first | rfl | (exfalso; omega)) rfl)
    · refine J_iconst (pc := 10) (v := 1) dX11_in_10 (by decide) ?_
      refine J_goto (pc := 11) (tgt := 15) dX11_in_11 (by decide) ?_
      exact J_iret (pc := 15) rfl rfl rfl dX11_in_15 (rq hQ (by simp only [Int32.lt_iff_toInt_lt, Int32.le_iff_toInt_le, bI, decide_eq_true_eq] at *; (repeat' split) <;> first | rfl | (exfalso; omega)) rfl)
theorem r_X11_less {g : Gp} {S : Sx} {v w : Int32} : RT g mX11_less 0 [.int v, .int w] S (some (.int (if v < w then v else w))) S := by
  refine RT_ofQ ⟨rfl, rfl⟩ (Nat.le_of_ble_eq_true rfl) (fun sz Q hQ => ?_)
  refine J_iload_n (pc := 0) dX11_less_0 rfl ?_
  refine J_iload_n (pc := 1) dX11_less_1 rfl ?_
  refine J_icmp_ge (pc := 2) (tgt := 9) dX11_less_2 (by decide) (fun c2 => ?_) (fun c2 => ?_)
  · refine J_iload_n (pc := 9) dX11_less_9 rfl ?_
    exact J_iret (pc := 10) rfl rfl rfl dX11_less_10 (rq hQ (by simp only [Int32.lt_iff_toInt_lt, Int32.le_iff_toInt_le, bI, decide_eq_true_eq] at *; (repeat' split) <;> first | rfl | (exfalso; omega)) rfl)
  · refine J_iload_n (pc := 5) dX11_less_5 rfl ?_
    refine J_goto (pc := 6) (tgt := 10) dX11_less_6 (by decide) ?_
    exact J_iret (pc := 10) rfl rfl rfl dX11_less_10 (rq hQ (by simp only [Int32.lt_iff_toInt_lt, Int32.le_iff_toInt_le, bI, decide_eq_true_eq] at *; (repeat' split) <;> first | rfl | (exfalso; omega)) rfl)
theorem r_X11_more {g : Gp} {S : Sx} {v w : Int32} : RT g mX11_more 0 [.int v, .int w] S (some (.int (if w < v then v else w))) S := by
  refine RT_ofQ ⟨rfl, rfl⟩ (Nat.le_of_ble_eq_true rfl) (fun sz Q hQ => ?_)
  refine J_iload_n (pc := 0) dX11_more_0 rfl ?_
  refine J_iload_n (pc := 1) dX11_more_1 rfl ?_
  refine J_icmp_le (pc := 2) (tgt := 9) dX11_more_2 (by decide) (fun c2 => ?_) (fun c2 => ?_)
  · refine J_iload_n (pc := 9) dX11_more_9 rfl ?_
    exact J_iret (pc := 10) rfl rfl rfl dX11_more_10 (rq hQ (by simp only [Int32.lt_iff_toInt_lt, Int32.le_iff_toInt_le, bI, decide_eq_true_eq] at *; (repeat' split) <;> first | rfl | (exfalso; omega)) rfl)
  · refine J_iload_n (pc := 5) dX11_more_5 rfl ?_
    refine J_goto (pc := 6) (tgt := 10) dX11_more_6 (by decide) ?_
    exact J_iret (pc := 10) rfl rfl rfl dX11_more_10 (rq hQ (by simp only [Int32.lt_iff_toInt_lt, Int32.le_iff_toInt_le, bI, decide_eq_true_eq] at *; (repeat' split) <;> first | rfl | (exfalso; omega)) rfl)
theorem r_X11_isDigit {g : Gp} {S : Sx} {c : Int32} : RT g mX11_isDigit 0 [.int c] S (some (.int (bI (decide (48 ≤ c ∧ c ≤ 57))))) S := by
  refine RT_ofQ ⟨rfl, rfl⟩ (Nat.le_of_ble_eq_true rfl) (fun sz Q hQ => ?_)
  refine J_iload_n (pc := 0) dX11_isDigit_0 rfl ?_
  refine J_bipush (pc := 1) (v := 48) dX11_isDigit_1 (by decide) ?_
  refine J_icmp_lt (pc := 3) (tgt := 16) dX11_isDigit_3 (by decide) (fun c3 => ?_) (fun c3 => ?_)
  · refine J_iconst (pc := 16) (v := 0) dX11_isDigit_16 (by decide) ?_
    exact J_iret (pc := 17) rfl rfl rfl dX11_isDigit_17 (rq hQ (by simp only [Int32.lt_iff_toInt_lt, Int32.le_iff_toInt_le, bI, decide_eq_true_eq] at *; (repeat' split) <;> first | rfl | (exfalso; omega)) rfl)
  · refine J_iload_n (pc := 6) dX11_isDigit_6 rfl ?_
    refine J_bipush (pc := 7) (v := 57) dX11_isDigit_7 (by decide) ?_
    refine J_icmp_gt (pc := 9) (tgt := 16) dX11_isDigit_9 (by decide) (fun c9 => ?_) (fun c9 => ?_)
    · refine J_iconst (pc := 16) (v := 0) dX11_isDigit_16 (by decide) ?_
      exact J_iret (pc := 17) rfl rfl rfl dX11_isDigit_17 (rq hQ (by simp only [Int32.lt_iff_toInt_lt, Int32.le_iff_toInt_le, bI, decide_eq_true_eq] at *; (repeat' split) <;> first | rfl | (exfalso; omega)) rfl)
    · refine J_iconst (pc := 12) (v := 1) dX11_isDigit_12 (by decide) ?_
      refine J_goto (pc := 13) (tgt := 17) dX11_isDigit_13 (by decide) ?_
      exact J_iret (pc := 17) rfl rfl rfl dX11_isDigit_17 (rq hQ (by simp only [Int32.lt_iff_toInt_lt, Int32.le_iff_toInt_le, bI, decide_eq_true_eq] at *; (repeat' split) <;> first | rfl | (exfalso; omega)) rfl)
theorem r_X11_isSmall {g : Gp} {S : Sx} {c : Int32} : RT g mX11_isSmall 0 [.int c] S (some (.int (bI (decide (97 ≤ c ∧ c ≤ 122))))) S := by
  refine RT_ofQ ⟨rfl, rfl⟩ (Nat.le_of_ble_eq_true rfl) (fun sz Q hQ => ?_)
  refine J_iload_n (pc := 0) dX11_isSmall_0 rfl ?_
  refine J_bipush (pc := 1) (v := 97) dX11_isSmall_1 (by decide) ?_
  refine J_icmp_lt (pc := 3) (tgt := 16) dX11_isSmall_3 (by decide) (fun c3 => ?_) (fun c3 => ?_)
  · refine J_iconst (pc := 16) (v := 0) dX11_isSmall_16 (by decide) ?_
    exact J_iret (pc := 17) rfl rfl rfl dX11_isSmall_17 (rq hQ (by simp only [Int32.lt_iff_toInt_lt, Int32.le_iff_toInt_le, bI, decide_eq_true_eq] at *; (repeat' split) <;> first | rfl | (exfalso; omega)) rfl)
  · refine J_iload_n (pc := 6) dX11_isSmall_6 rfl ?_
    refine J_bipush (pc := 7) (v := 122) dX11_isSmall_7 (by decide) ?_
    refine J_icmp_gt (pc := 9) (tgt := 16) dX11_isSmall_9 (by decide) (fun c9 => ?_) (fun c9 => ?_)
    · refine J_iconst (pc := 16) (v := 0) dX11_isSmall_16 (by decide) ?_
      exact J_iret (pc := 17) rfl rfl rfl dX11_isSmall_17 (rq hQ (by simp only [Int32.lt_iff_toInt_lt, Int32.le_iff_toInt_le, bI, decide_eq_true_eq] at *; (repeat' split) <;> first | rfl | (exfalso; omega)) rfl)
    · refine J_iconst (pc := 12) (v := 1) dX11_isSmall_12 (by decide) ?_
      refine J_goto (pc := 13) (tgt := 17) dX11_isSmall_13 (by decide) ?_
      exact J_iret (pc := 17) rfl rfl rfl dX11_isSmall_17 (rq hQ (by simp only [Int32.lt_iff_toInt_lt, Int32.le_iff_toInt_le, bI, decide_eq_true_eq] at *; (repeat' split) <;> first | rfl | (exfalso; omega)) rfl)
theorem r_X11_thrown {g : Gp} {S : Sx}  : RT g mX11_thrown 0 [.ref 59] S (some (.int (sf S 59 0))) S := by
  refine RT_ofQ ⟨rfl, rfl⟩ (Nat.le_of_ble_eq_true rfl) (fun sz Q hQ => ?_)
  refine J_aload_n (pc := 0) dX11_thrown_0 rfl ?_
  refine J_geti (pc := 1) dX11_thrown_1 kc11 fl_X11_103 rfl ?_
  exact J_iret (pc := 4) rfl rfl rfl dX11_thrown_4 (rq hQ (by first | rfl | simp [bI, *] | simp_all [bI]) rfl)
theorem r_X11_wrong {g : Gp} {S : Sx} {w h : Int32} : RT g mX11_wrong 0 [.ref 59, .int w, .int h] S none (if sf S 59 5 = 0 then sF (sF S 59 5 w) 59 6 h else S) := by
  refine RT_ofQ ⟨rfl, rfl⟩ (Nat.le_of_ble_eq_true rfl) (fun sz Q hQ => ?_)
  refine J_aload_n (pc := 0) dX11_wrong_0 rfl ?_
  refine J_geti (pc := 1) dX11_wrong_1 kc11 fl_X11_119 rfl ?_
  refine J_if_ne (pc := 4) (tgt := 17) dX11_wrong_4 (by decide) (fun c4 => ?_) (fun c4 => ?_)
  · exact J_ret (pc := 17) rfl rfl dX11_wrong_17 (rqv hQ (by first | rw [if_pos (by assumption)] | rw [if_neg (by assumption)]))
  · refine J_aload_n (pc := 7) dX11_wrong_7 rfl ?_
    refine J_iload_n (pc := 8) dX11_wrong_8 rfl ?_
    refine J_puti (pc := 9) dX11_wrong_9 kc11 fl_X11_119 rfl ⟨rfl, rfl⟩ ?_
    refine J_aload_n (pc := 12) dX11_wrong_12 rfl ?_
    refine J_iload_n (pc := 13) dX11_wrong_13 rfl ?_
    refine J_puti (pc := 14) dX11_wrong_14 kc11 fl_X11_122 rfl ⟨rfl, rfl⟩ ?_
    exact J_ret (pc := 17) rfl rfl dX11_wrong_17 (rqv hQ (by first | rw [if_pos (by assumption)] | rw [if_neg (by assumption)]))

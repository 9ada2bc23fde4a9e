/-! ===== constructors ===== -/
theorem oi_i : InT (.instanceMethod Lib.objectInit) := ⟨List.mem_of_getElem? (i := 178) rfl, rfl⟩
theorem oi_c : InT (.code Lib.objectInit ⟨#[0xb1]⟩ 1 none) := ⟨List.mem_of_getElem? (i := 179) rfl, rfl⟩
theorem ac_i : InT (.arrayClass .int) := ⟨List.mem_of_getElem? (i := 292) rfl, rfl⟩
theorem ac_b : InT (.arrayClass .byte) := ⟨List.mem_of_getElem? (i := 216) rfl, rfl⟩
set_option maxRecDepth 100000 in
theorem ac_l : InT (.arrayClass .long) := ⟨List.mem_of_getElem? (i := 1991) rfl, rfl⟩
theorem jq {g : Gp} {M : Mt} {d pc : Nat} {tb : List ExceptionTableEntry} {ls : List (Option Value)} {h h2 : AH} {sz z2 kc ks : Nat} (k : ∀ Q : Po, Q (.inl none) h2 z2 → J g M d tb pc ls [] h sz kc ks Q) : J g M d tb pc ls [] h sz kc ks (fun o h1 z1 => o = .inl none ∧ h1 = h2 ∧ z1 = z2) := k _ ⟨rfl, rfl, rfl⟩
theorem rw_of {h : AH} {a ci : Nat} {fs : List Value} {r : vw_C} {C : String} (h1 : h a = some (.inr (ci, fs))) (h2 : cls[ci]? = some r) (h3 : r.1 = C) : Rv h a C := Or.inl ⟨ci, fs, r, h1, h2, h3⟩
theorem hup_hup {h : AH} {a : Nat} {x y : AE} : hup (hup h a x) a y = hup h a y := by
  funext q
  by_cases e : q = a
  · subst e; rw [hup_s, hup_s]
  · rw [hup_n e, hup_n e, hup_n e]
theorem hup_id {h : AH} {a : Nat} {x : AE} (e : h a = some x) : hup h a x = h := by
  funext q
  by_cases e1 : q = a
  · subst e1; rw [hup_s, e]
  · rw [hup_n e1]
def fillN (f : Nat → Int32) (v : Nat → Int32) (o : Nat) : Nat → Nat → Int32
  | 0 => f
  | i + 1 => upd (fillN f v o i) (if o = 0 then i else o + i) (v i)
theorem v23 : ∀ i, i < 31 → ((23 : Int32) ≤ ix i ↔ 23 ≤ i) := by decide
section JFL
variable {g : Gp} {M : Mt} {d pc a n i : Nat} {tb : List ExceptionTableEntry} {ls : List (Option Value)} {st : List Value} {h : AH} {sz kc ks : Nat} {Q : Po} {f : Nat → Int32} {x v : Int32}
theorem J_isR (hd : decode M.2.1 pc = .ok (.iastore, 1)) (hx : x = nI i) (hi : i < n ∧ n < 2 ^ 31) (kk : J g M d tb (pc + 1) ls st (hup h a (.inl (0, n, .inl (upd f i v)))) sz kc ks Q) : J g M d tb pc ls (.int v :: .int x :: .ref a :: st) (hup h a (.inl (0, n, .inl f))) sz kc ks Q := by
  subst hx
  refine J_iast hd hup_s (vp_in_nI hi.1 hi.2) ?_
  rw [nI_clamp (by omega), hup_hup]
  exact kk
theorem hup_sw {b : Nat} {x x' y : AE} (hab : b ≠ a) : hup (hup (hup h a x) b y) a x' = hup (hup h a x') b y := by
  funext q
  by_cases e1 : q = a
  · subst e1; rw [hup_s, hup_n (Ne.symm hab), hup_s]
  · by_cases e2 : q = b
    · subst e2; rw [hup_n hab, hup_s, hup_s]
    · rw [hup_n e1, hup_n e2, hup_n e1, hup_n e2, hup_n e1]
theorem J_isR2 {b : Nat} {y : AE} (hd : decode M.2.1 pc = .ok (.iastore, 1)) (hab : b ≠ a) (hx : x = nI i) (hi : i < n ∧ n < 2 ^ 31) (kk : J g M d tb (pc + 1) ls st (hup (hup h a (.inl (0, n, .inl (upd f i v)))) b y) sz kc ks Q) : J g M d tb pc ls (.int v :: .int x :: .ref a :: st) (hup (hup h a (.inl (0, n, .inl f))) b y) sz kc ks Q := by
  subst hx
  refine J_iast hd ((hup_n (Ne.symm hab)).trans hup_s) (vp_in_nI hi.1 hi.2) ?_
  rw [nI_clamp (by omega), hup_sw hab]
  exact kk
theorem J_ilR (hd : decode M.2.1 pc = .ok (.iaload, 1)) (ha : h a = some (.inl (0, n, .inl f))) (hx : x = nI i) (hi : i < n ∧ n < 2 ^ 31) (kk : J g M d tb (pc + 1) ls (.int (f i) :: st) h sz kc ks Q) : J g M d tb pc ls (.int x :: .ref a :: st) h sz kc ks Q := by
  subst hx
  refine J_iald hd ha (vp_in_nI hi.1 hi.2) ?_
  rw [nI_clamp (by omega)]
  exact kk
theorem J_hp {h' : AH} (e : h = h') (kk : J g M d tb pc ls st h' sz kc ks Q) : J g M d tb pc ls st h sz kc ks Q := by rw [e]; exact kk
end JFL
def kX8i  (h : AH) : AH := (hup (hup (hup h 2 (.inl (1, 600, .inl (fun _ => 0)))) 1 (.inr (8, [.null, .int 0, .int 0, .int 0, .int 0, .int 0, .int 0].set 0 (.ref 2)))) 1 (.inr (8, [.ref 2, .int 0, .int 0, .int 0, .int 0, .int 0, .int 0].set 6 (.int (-1)))))
set_option maxRecDepth 4000 in
theorem nX8i {g : Gp} {h : AH}  (a1 : h 1 = some (.inr (8, [.null, .int 0, .int 0, .int 0, .int 0, .int 0, .int 0]))) : NT g mX8_init 0 1 600 [.ref 1] h 2 (fun o h1 z1 => o = .inl none ∧ h1 = kX8i h ∧ z1 = 3) := by
  refine NT_of_CT (fun _ _ _ q => by cases q.1) (CT_of_J ⟨rfl, rfl⟩ (Nat.le_of_ble_eq_true rfl) (J_forget (lsp_at 1 _) (jq (fun Q hQ => ?_))))
  refine J_aload_n (pc := 0) dX8_init_0 rfl ?_
  refine J_obj (pc := 1) dX8_init_1 ⟨List.mem_of_getElem? (i := 185) rfl, rfl⟩ oi_i oi_c (by decide) ?_
  refine J_aload_n (pc := 4) dX8_init_4 rfl ?_
  refine J_sipush (pc := 5) (v := 600) dX8_init_5 (by decide) ?_
  refine J_na (pc := 8) (t := 1) (n := 600) (z := .inl (fun _ => 0)) dX8_init_8 rfl (fun _ q => q) ac_b ⟨by decide, by decide⟩ (by decide) (fun _ => rfl) (by decide) (by decide) (by decide) ?_
  refine J_putF (pc := 10) (fs := [.null, .int 0, .int 0, .int 0, .int 0, .int 0, .int 0]) (v := .ref 2) dX8_init_10 kc8 fl_X8_9 ⟨rfl, rfl, rfl⟩ (by first | rfl | assumption) (Nat.le_of_ble_eq_true rfl) rfl rfl ?_
  refine J_aload_n (pc := 13) dX8_init_13 rfl ?_
  refine J_iconst (pc := 14) (v := (-1)) dX8_init_14 (by decide) ?_
  refine J_put (pc := 15) (fs := [.ref 2, .int 0, .int 0, .int 0, .int 0, .int 0, .int 0]) (v := .int (-1)) dX8_init_15 kc8 fl_X8_15 rfl (by first | rfl | assumption) (Nat.le_of_ble_eq_true rfl) rfl rfl ?_
  exact J_ret (pc := 18) rfl rfl dX8_init_18 hQ
def kX1i4  (h : AH) : AH := (hup (hup (hup (hup (hup (hup (hup (hup (hup (hup (hup (hup (hup (hup (hup (hup h 5 (.inl (0, 8, .inl (fun _ => 0)))) 4 (.inr (1, [.null, .null, .null, .null, .null, .null, .null, .null, .int 0, .int 0, .int 0].set 0 (.ref 5)))) 6 (.inl (0, 8, .inl (fun _ => 0)))) 4 (.inr (1, [.ref 5, .null, .null, .null, .null, .null, .null, .null, .int 0, .int 0, .int 0].set 1 (.ref 6)))) 7 (.inl (0, 8, .inl (fun _ => 0)))) 4 (.inr (1, [.ref 5, .ref 6, .null, .null, .null, .null, .null, .null, .int 0, .int 0, .int 0].set 2 (.ref 7)))) 8 (.inl (0, 10, .inl (fun _ => 0)))) 4 (.inr (1, [.ref 5, .ref 6, .ref 7, .null, .null, .null, .null, .null, .int 0, .int 0, .int 0].set 3 (.ref 8)))) 9 (.inl (0, 10, .inl (fun _ => 0)))) 4 (.inr (1, [.ref 5, .ref 6, .ref 7, .ref 8, .null, .null, .null, .null, .int 0, .int 0, .int 0].set 4 (.ref 9)))) 10 (.inl (0, 10, .inl (fun _ => 0)))) 4 (.inr (1, [.ref 5, .ref 6, .ref 7, .ref 8, .ref 9, .null, .null, .null, .int 0, .int 0, .int 0].set 5 (.ref 10)))) 11 (.inl (0, 8, .inl (fun _ => 0)))) 4 (.inr (1, [.ref 5, .ref 6, .ref 7, .ref 8, .ref 9, .ref 10, .null, .null, .int 0, .int 0, .int 0].set 6 (.ref 11)))) 12 (.inl (0, 8, .inl (fun _ => 0)))) 4 (.inr (1, [.ref 5, .ref 6, .ref 7, .ref 8, .ref 9, .ref 10, .ref 11, .null, .int 0, .int 0, .int 0].set 7 (.ref 12))))
set_option maxRecDepth 4000 in
theorem nX1i4 {g : Gp} {h : AH}  (a4 : h 4 = some (.inr (1, [.null, .null, .null, .null, .null, .null, .null, .null, .int 0, .int 0, .int 0]))) : NT g mX1_init 0 8 70 [.ref 4] h 5 (fun o h1 z1 => o = .inl none ∧ h1 = kX1i4 h ∧ z1 = 13) := by
  refine NT_of_CT (fun _ _ _ q => by cases q.1) (CT_of_J ⟨rfl, rfl⟩ (Nat.le_of_ble_eq_true rfl) (J_forget (lsp_at 1 _) (jq (fun Q hQ => ?_))))
  refine J_aload_n (pc := 0) dX1_init_0 rfl ?_
  refine J_obj (pc := 1) dX1_init_1 ⟨List.mem_of_getElem? (i := 224) rfl, rfl⟩ oi_i oi_c (by decide) ?_
  refine J_aload_n (pc := 4) dX1_init_4 rfl ?_
  refine J_bipush (pc := 5) (v := 8) dX1_init_5 (by decide) ?_
  refine J_na (pc := 7) (t := 0) (n := 8) (z := .inl (fun _ => 0)) dX1_init_7 rfl (fun _ q => q) ac_i ⟨by decide, by decide⟩ (by decide) (fun _ => rfl) (by decide) (by decide) (by decide) ?_
  refine J_putF (pc := 9) (fs := [.null, .null, .null, .null, .null, .null, .null, .null, .int 0, .int 0, .int 0]) (v := .ref 5) dX1_init_9 kc1 fl_X1_9 ⟨rfl, rfl, rfl⟩ (by first | rfl | assumption) (Nat.le_of_ble_eq_true rfl) rfl rfl ?_
  refine J_aload_n (pc := 12) dX1_init_12 rfl ?_
  refine J_bipush (pc := 13) (v := 8) dX1_init_13 (by decide) ?_
  refine J_na (pc := 15) (t := 0) (n := 8) (z := .inl (fun _ => 0)) dX1_init_15 rfl (fun _ q => q) ac_i ⟨by decide, by decide⟩ (by decide) (fun _ => rfl) (by decide) (by decide) (by decide) ?_
  refine J_putF (pc := 17) (fs := [.ref 5, .null, .null, .null, .null, .null, .null, .null, .int 0, .int 0, .int 0]) (v := .ref 6) dX1_init_17 kc1 fl_X1_15 ⟨rfl, rfl, rfl⟩ (by first | rfl | assumption) (Nat.le_of_ble_eq_true rfl) rfl rfl ?_
  refine J_aload_n (pc := 20) dX1_init_20 rfl ?_
  refine J_bipush (pc := 21) (v := 8) dX1_init_21 (by decide) ?_
  refine J_na (pc := 23) (t := 0) (n := 8) (z := .inl (fun _ => 0)) dX1_init_23 rfl (fun _ q => q) ac_i ⟨by decide, by decide⟩ (by decide) (fun _ => rfl) (by decide) (by decide) (by decide) ?_
  refine J_putF (pc := 25) (fs := [.ref 5, .ref 6, .null, .null, .null, .null, .null, .null, .int 0, .int 0, .int 0]) (v := .ref 7) dX1_init_25 kc1 fl_X1_18 ⟨rfl, rfl, rfl⟩ (by first | rfl | assumption) (Nat.le_of_ble_eq_true rfl) rfl rfl ?_
  refine J_aload_n (pc := 28) dX1_init_28 rfl ?_
  refine J_bipush (pc := 29) (v := 10) dX1_init_29 (by decide) ?_
  refine J_na (pc := 31) (t := 0) (n := 10) (z := .inl (fun _ => 0)) dX1_init_31 rfl (fun _ q => q) ac_i ⟨by decide, by decide⟩ (by decide) (fun _ => rfl) (by decide) (by decide) (by decide) ?_
  refine J_putF (pc := 33) (fs := [.ref 5, .ref 6, .ref 7, .null, .null, .null, .null, .null, .int 0, .int 0, .int 0]) (v := .ref 8) dX1_init_33 kc1 fl_X1_21 ⟨rfl, rfl, rfl⟩ (by first | rfl | assumption) (Nat.le_of_ble_eq_true rfl) rfl rfl ?_
  refine J_aload_n (pc := 36) dX1_init_36 rfl ?_
  refine J_bipush (pc := 37) (v := 10) dX1_init_37 (by decide) ?_
  refine J_na (pc := 39) (t := 0) (n := 10) (z := .inl (fun _ => 0)) dX1_init_39 rfl (fun _ q => q) ac_i ⟨by decide, by decide⟩ (by decide) (fun _ => rfl) (by decide) (by decide) (by decide) ?_
  refine J_putF (pc := 41) (fs := [.ref 5, .ref 6, .ref 7, .ref 8, .null, .null, .null, .null, .int 0, .int 0, .int 0]) (v := .ref 9) dX1_init_41 kc1 fl_X1_24 ⟨rfl, rfl, rfl⟩ (by first | rfl | assumption) (Nat.le_of_ble_eq_true rfl) rfl rfl ?_
  refine J_aload_n (pc := 44) dX1_init_44 rfl ?_
  refine J_bipush (pc := 45) (v := 10) dX1_init_45 (by decide) ?_
  refine J_na (pc := 47) (t := 0) (n := 10) (z := .inl (fun _ => 0)) dX1_init_47 rfl (fun _ q => q) ac_i ⟨by decide, by decide⟩ (by decide) (fun _ => rfl) (by decide) (by decide) (by decide) ?_
  refine J_putF (pc := 49) (fs := [.ref 5, .ref 6, .ref 7, .ref 8, .ref 9, .null, .null, .null, .int 0, .int 0, .int 0]) (v := .ref 10) dX1_init_49 kc1 fl_X1_27 ⟨rfl, rfl, rfl⟩ (by first | rfl | assumption) (Nat.le_of_ble_eq_true rfl) rfl rfl ?_
  refine J_aload_n (pc := 52) dX1_init_52 rfl ?_
  refine J_bipush (pc := 53) (v := 8) dX1_init_53 (by decide) ?_
  refine J_na (pc := 55) (t := 0) (n := 8) (z := .inl (fun _ => 0)) dX1_init_55 rfl (fun _ q => q) ac_i ⟨by decide, by decide⟩ (by decide) (fun _ => rfl) (by decide) (by decide) (by decide) ?_
  refine J_putF (pc := 57) (fs := [.ref 5, .ref 6, .ref 7, .ref 8, .ref 9, .ref 10, .null, .null, .int 0, .int 0, .int 0]) (v := .ref 11) dX1_init_57 kc1 fl_X1_30 ⟨rfl, rfl, rfl⟩ (by first | rfl | assumption) (Nat.le_of_ble_eq_true rfl) rfl rfl ?_
  refine J_aload_n (pc := 60) dX1_init_60 rfl ?_
  refine J_bipush (pc := 61) (v := 8) dX1_init_61 (by decide) ?_
  refine J_na (pc := 63) (t := 0) (n := 8) (z := .inl (fun _ => 0)) dX1_init_63 rfl (fun _ q => q) ac_i ⟨by decide, by decide⟩ (by decide) (fun _ => rfl) (by decide) (by decide) (by decide) ?_
  refine J_putF (pc := 65) (fs := [.ref 5, .ref 6, .ref 7, .ref 8, .ref 9, .ref 10, .ref 11, .null, .int 0, .int 0, .int 0]) (v := .ref 12) dX1_init_65 kc1 fl_X1_33 ⟨rfl, rfl, rfl⟩ (by first | rfl | assumption) (Nat.le_of_ble_eq_true rfl) rfl rfl ?_
  exact J_ret (pc := 68) rfl rfl dX1_init_68 hQ
def kX1i39  (h : AH) : AH := (hup (hup (hup (hup (hup (hup (hup (hup (hup (hup (hup (hup (hup (hup (hup (hup h 40 (.inl (0, 8, .inl (fun _ => 0)))) 39 (.inr (1, [.null, .null, .null, .null, .null, .null, .null, .null, .int 0, .int 0, .int 0].set 0 (.ref 40)))) 41 (.inl (0, 8, .inl (fun _ => 0)))) 39 (.inr (1, [.ref 40, .null, .null, .null, .null, .null, .null, .null, .int 0, .int 0, .int 0].set 1 (.ref 41)))) 42 (.inl (0, 8, .inl (fun _ => 0)))) 39 (.inr (1, [.ref 40, .ref 41, .null, .null, .null, .null, .null, .null, .int 0, .int 0, .int 0].set 2 (.ref 42)))) 43 (.inl (0, 10, .inl (fun _ => 0)))) 39 (.inr (1, [.ref 40, .ref 41, .ref 42, .null, .null, .null, .null, .null, .int 0, .int 0, .int 0].set 3 (.ref 43)))) 44 (.inl (0, 10, .inl (fun _ => 0)))) 39 (.inr (1, [.ref 40, .ref 41, .ref 42, .ref 43, .null, .null, .null, .null, .int 0, .int 0, .int 0].set 4 (.ref 44)))) 45 (.inl (0, 10, .inl (fun _ => 0)))) 39 (.inr (1, [.ref 40, .ref 41, .ref 42, .ref 43, .ref 44, .null, .null, .null, .int 0, .int 0, .int 0].set 5 (.ref 45)))) 46 (.inl (0, 8, .inl (fun _ => 0)))) 39 (.inr (1, [.ref 40, .ref 41, .ref 42, .ref 43, .ref 44, .ref 45, .null, .null, .int 0, .int 0, .int 0].set 6 (.ref 46)))) 47 (.inl (0, 8, .inl (fun _ => 0)))) 39 (.inr (1, [.ref 40, .ref 41, .ref 42, .ref 43, .ref 44, .ref 45, .ref 46, .null, .int 0, .int 0, .int 0].set 7 (.ref 47))))
set_option maxRecDepth 4000 in
theorem nX1i39 {g : Gp} {h : AH}  (a39 : h 39 = some (.inr (1, [.null, .null, .null, .null, .null, .null, .null, .null, .int 0, .int 0, .int 0]))) : NT g mX1_init 0 8 70 [.ref 39] h 40 (fun o h1 z1 => o = .inl none ∧ h1 = kX1i39 h ∧ z1 = 48) := by
  refine NT_of_CT (fun _ _ _ q => by cases q.1) (CT_of_J ⟨rfl, rfl⟩ (Nat.le_of_ble_eq_true rfl) (J_forget (lsp_at 1 _) (jq (fun Q hQ => ?_))))
  refine J_aload_n (pc := 0) dX1_init_0 rfl ?_
  refine J_obj (pc := 1) dX1_init_1 ⟨List.mem_of_getElem? (i := 224) rfl, rfl⟩ oi_i oi_c (by decide) ?_
  refine J_aload_n (pc := 4) dX1_init_4 rfl ?_
  refine J_bipush (pc := 5) (v := 8) dX1_init_5 (by decide) ?_
  refine J_na (pc := 7) (t := 0) (n := 8) (z := .inl (fun _ => 0)) dX1_init_7 rfl (fun _ q => q) ac_i ⟨by decide, by decide⟩ (by decide) (fun _ => rfl) (by decide) (by decide) (by decide) ?_
  refine J_putF (pc := 9) (fs := [.null, .null, .null, .null, .null, .null, .null, .null, .int 0, .int 0, .int 0]) (v := .ref 40) dX1_init_9 kc1 fl_X1_9 ⟨rfl, rfl, rfl⟩ (by first | rfl | assumption) (Nat.le_of_ble_eq_true rfl) rfl rfl ?_
  refine J_aload_n (pc := 12) dX1_init_12 rfl ?_
  refine J_bipush (pc := 13) (v := 8) dX1_init_13 (by decide) ?_
  refine J_na (pc := 15) (t := 0) (n := 8) (z := .inl (fun _ => 0)) dX1_init_15 rfl (fun _ q => q) ac_i ⟨by decide, by decide⟩ (by decide) (fun _ => rfl) (by decide) (by decide) (by decide) ?_
  refine J_putF (pc := 17) (fs := [.ref 40, .null, .null, .null, .null, .null, .null, .null, .int 0, .int 0, .int 0]) (v := .ref 41) dX1_init_17 kc1 fl_X1_15 ⟨rfl, rfl, rfl⟩ (by first | rfl | assumption) (Nat.le_of_ble_eq_true rfl) rfl rfl ?_
  refine J_aload_n (pc := 20) dX1_init_20 rfl ?_
  refine J_bipush (pc := 21) (v := 8) dX1_init_21 (by decide) ?_
  refine J_na (pc := 23) (t := 0) (n := 8) (z := .inl (fun _ => 0)) dX1_init_23 rfl (fun _ q => q) ac_i ⟨by decide, by decide⟩ (by decide) (fun _ => rfl) (by decide) (by decide) (by decide) ?_
  refine J_putF (pc := 25) (fs := [.ref 40, .ref 41, .null, .null, .null, .null, .null, .null, .int 0, .int 0, .int 0]) (v := .ref 42) dX1_init_25 kc1 fl_X1_18 ⟨rfl, rfl, rfl⟩ (by first | rfl | assumption) (Nat.le_of_ble_eq_true rfl) rfl rfl ?_
  refine J_aload_n (pc := 28) dX1_init_28 rfl ?_
  refine J_bipush (pc := 29) (v := 10) dX1_init_29 (by decide) ?_
  refine J_na (pc := 31) (t := 0) (n := 10) (z := .inl (fun _ => 0)) dX1_init_31 rfl (fun _ q => q) ac_i ⟨by decide, by decide⟩ (by decide) (fun _ => rfl) (by decide) (by decide) (by decide) ?_
  refine J_putF (pc := 33) (fs := [.ref 40, .ref 41, .ref 42, .null, .null, .null, .null, .null, .int 0, .int 0, .int 0]) (v := .ref 43) dX1_init_33 kc1 fl_X1_21 ⟨rfl, rfl, rfl⟩ (by first | rfl | assumption) (Nat.le_of_ble_eq_true rfl) rfl rfl ?_
  refine J_aload_n (pc := 36) dX1_init_36 rfl ?_
  refine J_bipush (pc := 37) (v := 10) dX1_init_37 (by decide) ?_
  refine J_na (pc := 39) (t := 0) (n := 10) (z := .inl (fun _ => 0)) dX1_init_39 rfl (fun _ q => q) ac_i ⟨by decide, by decide⟩ (by decide) (fun _ => rfl) (by decide) (by decide) (by decide) ?_
  refine J_putF (pc := 41) (fs := [.ref 40, .ref 41, .ref 42, .ref 43, .null, .null, .null, .null, .int 0, .int 0, .int 0]) (v := .ref 44) dX1_init_41 kc1 fl_X1_24 ⟨rfl, rfl, rfl⟩ (by first | rfl | assumption) (Nat.le_of_ble_eq_true rfl) rfl rfl ?_
  refine J_aload_n (pc := 44) dX1_init_44 rfl ?_
  refine J_bipush (pc := 45) (v := 10) dX1_init_45 (by decide) ?_
  refine J_na (pc := 47) (t := 0) (n := 10) (z := .inl (fun _ => 0)) dX1_init_47 rfl (fun _ q => q) ac_i ⟨by decide, by decide⟩ (by decide) (fun _ => rfl) (by decide) (by decide) (by decide) ?_
  refine J_putF (pc := 49) (fs := [.ref 40, .ref 41, .ref 42, .ref 43, .ref 44, .null, .null, .null, .int 0, .int 0, .int 0]) (v := .ref 45) dX1_init_49 kc1 fl_X1_27 ⟨rfl, rfl, rfl⟩ (by first | rfl | assumption) (Nat.le_of_ble_eq_true rfl) rfl rfl ?_
  refine J_aload_n (pc := 52) dX1_init_52 rfl ?_
  refine J_bipush (pc := 53) (v := 8) dX1_init_53 (by decide) ?_
  refine J_na (pc := 55) (t := 0) (n := 8) (z := .inl (fun _ => 0)) dX1_init_55 rfl (fun _ q => q) ac_i ⟨by decide, by decide⟩ (by decide) (fun _ => rfl) (by decide) (by decide) (by decide) ?_
  refine J_putF (pc := 57) (fs := [.ref 40, .ref 41, .ref 42, .ref 43, .ref 44, .ref 45, .null, .null, .int 0, .int 0, .int 0]) (v := .ref 46) dX1_init_57 kc1 fl_X1_30 ⟨rfl, rfl, rfl⟩ (by first | rfl | assumption) (Nat.le_of_ble_eq_true rfl) rfl rfl ?_
  refine J_aload_n (pc := 60) dX1_init_60 rfl ?_
  refine J_bipush (pc := 61) (v := 8) dX1_init_61 (by decide) ?_
  refine J_na (pc := 63) (t := 0) (n := 8) (z := .inl (fun _ => 0)) dX1_init_63 rfl (fun _ q => q) ac_i ⟨by decide, by decide⟩ (by decide) (fun _ => rfl) (by decide) (by decide) (by decide) ?_
  refine J_putF (pc := 65) (fs := [.ref 40, .ref 41, .ref 42, .ref 43, .ref 44, .ref 45, .ref 46, .null, .int 0, .int 0, .int 0]) (v := .ref 47) dX1_init_65 kc1 fl_X1_33 ⟨rfl, rfl, rfl⟩ (by first | rfl | assumption) (Nat.le_of_ble_eq_true rfl) rfl rfl ?_
  exact J_ret (pc := 68) rfl rfl dX1_init_68 hQ
def kX2i13  (h : AH) : AH := (hup (hup (hup (hup h 14 (.inl (0, 150, .inl (fun _ => 0)))) 13 (.inr (2, [.null, .null, .int 0].set 0 (.ref 14)))) 15 (.inl (0, 24, .inl (fun _ => 0)))) 13 (.inr (2, [.ref 14, .null, .int 0].set 1 (.ref 15))))
set_option maxRecDepth 4000 in
theorem nX2i13 {g : Gp} {h : AH}  (a13 : h 13 = some (.inr (2, [.null, .null, .int 0]))) : NT g mX2_init 0 2 174 [.ref 13] h 14 (fun o h1 z1 => o = .inl none ∧ h1 = kX2i13 h ∧ z1 = 16) := by
  refine NT_of_CT (fun _ _ _ q => by cases q.1) (CT_of_J ⟨rfl, rfl⟩ (Nat.le_of_ble_eq_true rfl) (J_forget (lsp_at 1 _) (jq (fun Q hQ => ?_))))
  refine J_aload_n (pc := 0) dX2_init_0 rfl ?_
  refine J_obj (pc := 1) dX2_init_1 ⟨List.mem_of_getElem? (i := 298) rfl, rfl⟩ oi_i oi_c (by decide) ?_
  refine J_aload_n (pc := 4) dX2_init_4 rfl ?_
  refine J_sipush (pc := 5) (v := 150) dX2_init_5 (by decide) ?_
  refine J_na (pc := 8) (t := 0) (n := 150) (z := .inl (fun _ => 0)) dX2_init_8 rfl (fun _ q => q) ac_i ⟨by decide, by decide⟩ (by decide) (fun _ => rfl) (by decide) (by decide) (by decide) ?_
  refine J_putF (pc := 10) (fs := [.null, .null, .int 0]) (v := .ref 14) dX2_init_10 kc2 fl_X2_9 ⟨rfl, rfl, rfl⟩ (by first | rfl | assumption) (Nat.le_of_ble_eq_true rfl) rfl rfl ?_
  refine J_aload_n (pc := 13) dX2_init_13 rfl ?_
  refine J_bipush (pc := 14) (v := 24) dX2_init_14 (by decide) ?_
  refine J_na (pc := 16) (t := 0) (n := 24) (z := .inl (fun _ => 0)) dX2_init_16 rfl (fun _ q => q) ac_i ⟨by decide, by decide⟩ (by decide) (fun _ => rfl) (by decide) (by decide) (by decide) ?_
  refine J_putF (pc := 18) (fs := [.ref 14, .null, .int 0]) (v := .ref 15) dX2_init_18 kc2 fl_X2_15 ⟨rfl, rfl, rfl⟩ (by first | rfl | assumption) (Nat.le_of_ble_eq_true rfl) rfl rfl ?_
  exact J_ret (pc := 21) rfl rfl dX2_init_21 hQ
def kX2i48  (h : AH) : AH := (hup (hup (hup (hup h 49 (.inl (0, 150, .inl (fun _ => 0)))) 48 (.inr (2, [.null, .null, .int 0].set 0 (.ref 49)))) 50 (.inl (0, 24, .inl (fun _ => 0)))) 48 (.inr (2, [.ref 49, .null, .int 0].set 1 (.ref 50))))
set_option maxRecDepth 4000 in
theorem nX2i48 {g : Gp} {h : AH}  (a48 : h 48 = some (.inr (2, [.null, .null, .int 0]))) : NT g mX2_init 0 2 174 [.ref 48] h 49 (fun o h1 z1 => o = .inl none ∧ h1 = kX2i48 h ∧ z1 = 51) := by
  refine NT_of_CT (fun _ _ _ q => by cases q.1) (CT_of_J ⟨rfl, rfl⟩ (Nat.le_of_ble_eq_true rfl) (J_forget (lsp_at 1 _) (jq (fun Q hQ => ?_))))
  refine J_aload_n (pc := 0) dX2_init_0 rfl ?_
  refine J_obj (pc := 1) dX2_init_1 ⟨List.mem_of_getElem? (i := 298) rfl, rfl⟩ oi_i oi_c (by decide) ?_
  refine J_aload_n (pc := 4) dX2_init_4 rfl ?_
  refine J_sipush (pc := 5) (v := 150) dX2_init_5 (by decide) ?_
  refine J_na (pc := 8) (t := 0) (n := 150) (z := .inl (fun _ => 0)) dX2_init_8 rfl (fun _ q => q) ac_i ⟨by decide, by decide⟩ (by decide) (fun _ => rfl) (by decide) (by decide) (by decide) ?_
  refine J_putF (pc := 10) (fs := [.null, .null, .int 0]) (v := .ref 49) dX2_init_10 kc2 fl_X2_9 ⟨rfl, rfl, rfl⟩ (by first | rfl | assumption) (Nat.le_of_ble_eq_true rfl) rfl rfl ?_
  refine J_aload_n (pc := 13) dX2_init_13 rfl ?_
  refine J_bipush (pc := 14) (v := 24) dX2_init_14 (by decide) ?_
  refine J_na (pc := 16) (t := 0) (n := 24) (z := .inl (fun _ => 0)) dX2_init_16 rfl (fun _ q => q) ac_i ⟨by decide, by decide⟩ (by decide) (fun _ => rfl) (by decide) (by decide) (by decide) ?_
  refine J_putF (pc := 18) (fs := [.ref 49, .null, .int 0]) (v := .ref 50) dX2_init_18 kc2 fl_X2_15 ⟨rfl, rfl, rfl⟩ (by first | rfl | assumption) (Nat.le_of_ble_eq_true rfl) rfl rfl ?_
  exact J_ret (pc := 21) rfl rfl dX2_init_21 hQ
def kX2a0_3 (w9 : Nat → Int32) (h : AH) : AH := (hup (hup h 14 (.inl (0, 150, .inl (upd w9 (0 : Int32).toNatClampNeg 1000)))) 13 (.inr (2, [.ref 14, .ref 15, .int 0].set 2 (.int 1))))
set_option maxRecDepth 4000 in
theorem nX2a0_3 {g : Gp} {h : AH} {w9 : Nat → Int32} (a13 : h 13 = some (.inr (2, [.ref 14, .ref 15, .int 0]))) (a14 : h 14 = some (.inl (0, 150, .inl w9))) : NT g mX2_add 0 0 0 [.ref 13, .int 1000] h 18 (fun o h1 z1 => o = .inl none ∧ h1 = kX2a0_3 w9 h ∧ z1 = 18) := by
  refine NT_of_CT (fun _ _ _ q => by cases q.1) (CT_of_J ⟨rfl, rfl⟩ (Nat.le_of_ble_eq_true rfl) (J_forget (lsp_at 2 _) (jq (fun Q hQ => ?_))))
  refine J_aload_n (pc := 0) dX2_add_0 rfl ?_
  refine J_get (pc := 1) (fs := [.ref 14, .ref 15, .int 0]) (v := .int 0) dX2_add_1 kc2 fl_X2_18 (by first | rfl | assumption) rfl ?_
  refine J_aload_n (pc := 4) dX2_add_4 rfl ?_
  refine J_get (pc := 5) (fs := [.ref 14, .ref 15, .int 0]) (v := .ref 14) dX2_add_5 kc2 fl_X2_9 (by first | rfl | assumption) rfl ?_
  refine J_alen (pc := 8) (t := 0) (n := 150) (w := 150) (x := .inl w9) dX2_add_8 (by decide) (by first | rfl | assumption) rfl ?_
  refine J_icmp_ge (pc := 9) (tgt := 32) dX2_add_9 (by decide) (fun c9 => absurd c9 (by decide)) (fun _ => ?_)
  refine J_aload_n (pc := 12) dX2_add_12 rfl ?_
  refine J_get (pc := 13) (fs := [.ref 14, .ref 15, .int 0]) (v := .ref 14) dX2_add_13 kc2 fl_X2_9 (by first | rfl | assumption) rfl ?_
  refine J_aload_n (pc := 16) dX2_add_16 rfl ?_
  refine J_get (pc := 17) (fs := [.ref 14, .ref 15, .int 0]) (v := .int 0) dX2_add_17 kc2 fl_X2_18 (by first | rfl | assumption) rfl ?_
  refine J_iload_n (pc := 20) dX2_add_20 rfl ?_
  refine J_iast (pc := 21) (n := 150) (f := w9) dX2_add_21 (by first | rfl | assumption) (vp_in_nI (n := 0) (N := 150) (by decide) (by decide)) ?_
  refine J_aload_n (pc := 22) dX2_add_22 rfl ?_
  refine J_dup (pc := 23) dX2_add_23 rfl ?_
  refine J_get (pc := 24) (fs := [.ref 14, .ref 15, .int 0]) (v := .int 0) dX2_add_24 kc2 fl_X2_18 (by first | rfl | assumption) rfl ?_
  refine J_iconst (pc := 27) (v := 1) dX2_add_27 (by decide) ?_
  refine J_iadd (pc := 28) dX2_add_28 ?_
  refine J_t1 (y := 1) (by decide) ?_
  refine J_put (pc := 29) (fs := [.ref 14, .ref 15, .int 0]) (v := .int 1) dX2_add_29 kc2 fl_X2_18 rfl (by first | rfl | assumption) (Nat.le_of_ble_eq_true rfl) rfl rfl ?_
  exact J_ret (pc := 32) rfl rfl dX2_add_32 hQ
def kX2a1_3 (w9 : Nat → Int32) (h : AH) : AH := (hup (hup h 14 (.inl (0, 150, .inl (upd w9 (1 : Int32).toNatClampNeg 1001)))) 13 (.inr (2, [.ref 14, .ref 15, .int 1].set 2 (.int 2))))
set_option maxRecDepth 4000 in
theorem nX2a1_3 {g : Gp} {h : AH} {w9 : Nat → Int32} (a13 : h 13 = some (.inr (2, [.ref 14, .ref 15, .int 1]))) (a14 : h 14 = some (.inl (0, 150, .inl w9))) : NT g mX2_add 0 0 0 [.ref 13, .int 1001] h 18 (fun o h1 z1 => o = .inl none ∧ h1 = kX2a1_3 w9 h ∧ z1 = 18) := by
  refine NT_of_CT (fun _ _ _ q => by cases q.1) (CT_of_J ⟨rfl, rfl⟩ (Nat.le_of_ble_eq_true rfl) (J_forget (lsp_at 2 _) (jq (fun Q hQ => ?_))))
  refine J_aload_n (pc := 0) dX2_add_0 rfl ?_
  refine J_get (pc := 1) (fs := [.ref 14, .ref 15, .int 1]) (v := .int 1) dX2_add_1 kc2 fl_X2_18 (by first | rfl | assumption) rfl ?_
  refine J_aload_n (pc := 4) dX2_add_4 rfl ?_
  refine J_get (pc := 5) (fs := [.ref 14, .ref 15, .int 1]) (v := .ref 14) dX2_add_5 kc2 fl_X2_9 (by first | rfl | assumption) rfl ?_
  refine J_alen (pc := 8) (t := 0) (n := 150) (w := 150) (x := .inl w9) dX2_add_8 (by decide) (by first | rfl | assumption) rfl ?_
  refine J_icmp_ge (pc := 9) (tgt := 32) dX2_add_9 (by decide) (fun c9 => absurd c9 (by decide)) (fun _ => ?_)
  refine J_aload_n (pc := 12) dX2_add_12 rfl ?_
  refine J_get (pc := 13) (fs := [.ref 14, .ref 15, .int 1]) (v := .ref 14) dX2_add_13 kc2 fl_X2_9 (by first | rfl | assumption) rfl ?_
  refine J_aload_n (pc := 16) dX2_add_16 rfl ?_
  refine J_get (pc := 17) (fs := [.ref 14, .ref 15, .int 1]) (v := .int 1) dX2_add_17 kc2 fl_X2_18 (by first | rfl | assumption) rfl ?_
  refine J_iload_n (pc := 20) dX2_add_20 rfl ?_
  refine J_iast (pc := 21) (n := 150) (f := w9) dX2_add_21 (by first | rfl | assumption) (vp_in_nI (n := 1) (N := 150) (by decide) (by decide)) ?_
  refine J_aload_n (pc := 22) dX2_add_22 rfl ?_
  refine J_dup (pc := 23) dX2_add_23 rfl ?_
  refine J_get (pc := 24) (fs := [.ref 14, .ref 15, .int 1]) (v := .int 1) dX2_add_24 kc2 fl_X2_18 (by first | rfl | assumption) rfl ?_
  refine J_iconst (pc := 27) (v := 1) dX2_add_27 (by decide) ?_
  refine J_iadd (pc := 28) dX2_add_28 ?_
  refine J_t1 (y := 2) (by decide) ?_
  refine J_put (pc := 29) (fs := [.ref 14, .ref 15, .int 1]) (v := .int 2) dX2_add_29 kc2 fl_X2_18 rfl (by first | rfl | assumption) (Nat.le_of_ble_eq_true rfl) rfl rfl ?_
  exact J_ret (pc := 32) rfl rfl dX2_add_32 hQ
def kX2a2_3 (w9 : Nat → Int32) (h : AH) : AH := (hup (hup h 14 (.inl (0, 150, .inl (upd w9 (2 : Int32).toNatClampNeg 2000)))) 13 (.inr (2, [.ref 14, .ref 15, .int 2].set 2 (.int 3))))
set_option maxRecDepth 4000 in
theorem nX2a2_3 {g : Gp} {h : AH} {w9 : Nat → Int32} (a13 : h 13 = some (.inr (2, [.ref 14, .ref 15, .int 2]))) (a14 : h 14 = some (.inl (0, 150, .inl w9))) : NT g mX2_add 0 0 0 [.ref 13, .int 2000] h 18 (fun o h1 z1 => o = .inl none ∧ h1 = kX2a2_3 w9 h ∧ z1 = 18) := by
  refine NT_of_CT (fun _ _ _ q => by cases q.1) (CT_of_J ⟨rfl, rfl⟩ (Nat.le_of_ble_eq_true rfl) (J_forget (lsp_at 2 _) (jq (fun Q hQ => ?_))))
  refine J_aload_n (pc := 0) dX2_add_0 rfl ?_
  refine J_get (pc := 1) (fs := [.ref 14, .ref 15, .int 2]) (v := .int 2) dX2_add_1 kc2 fl_X2_18 (by first | rfl | assumption) rfl ?_
  refine J_aload_n (pc := 4) dX2_add_4 rfl ?_
  refine J_get (pc := 5) (fs := [.ref 14, .ref 15, .int 2]) (v := .ref 14) dX2_add_5 kc2 fl_X2_9 (by first | rfl | assumption) rfl ?_
  refine J_alen (pc := 8) (t := 0) (n := 150) (w := 150) (x := .inl w9) dX2_add_8 (by decide) (by first | rfl | assumption) rfl ?_
  refine J_icmp_ge (pc := 9) (tgt := 32) dX2_add_9 (by decide) (fun c9 => absurd c9 (by decide)) (fun _ => ?_)
  refine J_aload_n (pc := 12) dX2_add_12 rfl ?_
  refine J_get (pc := 13) (fs := [.ref 14, .ref 15, .int 2]) (v := .ref 14) dX2_add_13 kc2 fl_X2_9 (by first | rfl | assumption) rfl ?_
  refine J_aload_n (pc := 16) dX2_add_16 rfl ?_
  refine J_get (pc := 17) (fs := [.ref 14, .ref 15, .int 2]) (v := .int 2) dX2_add_17 kc2 fl_X2_18 (by first | rfl | assumption) rfl ?_
  refine J_iload_n (pc := 20) dX2_add_20 rfl ?_
  refine J_iast (pc := 21) (n := 150) (f := w9) dX2_add_21 (by first | rfl | assumption) (vp_in_nI (n := 2) (N := 150) (by decide) (by decide)) ?_
  refine J_aload_n (pc := 22) dX2_add_22 rfl ?_
  refine J_dup (pc := 23) dX2_add_23 rfl ?_
  refine J_get (pc := 24) (fs := [.ref 14, .ref 15, .int 2]) (v := .int 2) dX2_add_24 kc2 fl_X2_18 (by first | rfl | assumption) rfl ?_
  refine J_iconst (pc := 27) (v := 1) dX2_add_27 (by decide) ?_
  refine J_iadd (pc := 28) dX2_add_28 ?_
  refine J_t1 (y := 3) (by decide) ?_
  refine J_put (pc := 29) (fs := [.ref 14, .ref 15, .int 2]) (v := .int 3) dX2_add_29 kc2 fl_X2_18 rfl (by first | rfl | assumption) (Nat.le_of_ble_eq_true rfl) rfl rfl ?_
  exact J_ret (pc := 32) rfl rfl dX2_add_32 hQ
def kX2a3_3 (w9 : Nat → Int32) (h : AH) : AH := (hup (hup h 14 (.inl (0, 150, .inl (upd w9 (3 : Int32).toNatClampNeg 1002)))) 13 (.inr (2, [.ref 14, .ref 15, .int 3].set 2 (.int 4))))
set_option maxRecDepth 4000 in
theorem nX2a3_3 {g : Gp} {h : AH} {w9 : Nat → Int32} (a13 : h 13 = some (.inr (2, [.ref 14, .ref 15, .int 3]))) (a14 : h 14 = some (.inl (0, 150, .inl w9))) : NT g mX2_add 0 0 0 [.ref 13, .int 1002] h 18 (fun o h1 z1 => o = .inl none ∧ h1 = kX2a3_3 w9 h ∧ z1 = 18) := by
  refine NT_of_CT (fun _ _ _ q => by cases q.1) (CT_of_J ⟨rfl, rfl⟩ (Nat.le_of_ble_eq_true rfl) (J_forget (lsp_at 2 _) (jq (fun Q hQ => ?_))))
  refine J_aload_n (pc := 0) dX2_add_0 rfl ?_
  refine J_get (pc := 1) (fs := [.ref 14, .ref 15, .int 3]) (v := .int 3) dX2_add_1 kc2 fl_X2_18 (by first | rfl | assumption) rfl ?_
  refine J_aload_n (pc := 4) dX2_add_4 rfl ?_
  refine J_get (pc := 5) (fs := [.ref 14, .ref 15, .int 3]) (v := .ref 14) dX2_add_5 kc2 fl_X2_9 (by first | rfl | assumption) rfl ?_
  refine J_alen (pc := 8) (t := 0) (n := 150) (w := 150) (x := .inl w9) dX2_add_8 (by decide) (by first | rfl | assumption) rfl ?_
  refine J_icmp_ge (pc := 9) (tgt := 32) dX2_add_9 (by decide) (fun c9 => absurd c9 (by decide)) (fun _ => ?_)
  refine J_aload_n (pc := 12) dX2_add_12 rfl ?_
  refine J_get (pc := 13) (fs := [.ref 14, .ref 15, .int 3]) (v := .ref 14) dX2_add_13 kc2 fl_X2_9 (by first | rfl | assumption) rfl ?_
  refine J_aload_n (pc := 16) dX2_add_16 rfl ?_
  refine J_get (pc := 17) (fs := [.ref 14, .ref 15, .int 3]) (v := .int 3) dX2_add_17 kc2 fl_X2_18 (by first | rfl | assumption) rfl ?_
  refine J_iload_n (pc := 20) dX2_add_20 rfl ?_
  refine J_iast (pc := 21) (n := 150) (f := w9) dX2_add_21 (by first | rfl | assumption) (vp_in_nI (n := 3) (N := 150) (by decide) (by decide)) ?_
  refine J_aload_n (pc := 22) dX2_add_22 rfl ?_
  refine J_dup (pc := 23) dX2_add_23 rfl ?_
  refine J_get (pc := 24) (fs := [.ref 14, .ref 15, .int 3]) (v := .int 3) dX2_add_24 kc2 fl_X2_18 (by first | rfl | assumption) rfl ?_
  refine J_iconst (pc := 27) (v := 1) dX2_add_27 (by decide) ?_
  refine J_iadd (pc := 28) dX2_add_28 ?_
  refine J_t1 (y := 4) (by decide) ?_
  refine J_put (pc := 29) (fs := [.ref 14, .ref 15, .int 3]) (v := .int 4) dX2_add_29 kc2 fl_X2_18 rfl (by first | rfl | assumption) (Nat.le_of_ble_eq_true rfl) rfl rfl ?_
  exact J_ret (pc := 32) rfl rfl dX2_add_32 hQ
def kX2a4_3 (w9 : Nat → Int32) (h : AH) : AH := (hup (hup h 14 (.inl (0, 150, .inl (upd w9 (4 : Int32).toNatClampNeg 2)))) 13 (.inr (2, [.ref 14, .ref 15, .int 4].set 2 (.int 5))))
set_option maxRecDepth 4000 in
theorem nX2a4_3 {g : Gp} {h : AH} {w9 : Nat → Int32} (a13 : h 13 = some (.inr (2, [.ref 14, .ref 15, .int 4]))) (a14 : h 14 = some (.inl (0, 150, .inl w9))) : NT g mX2_add 0 0 0 [.ref 13, .int 2] h 18 (fun o h1 z1 => o = .inl none ∧ h1 = kX2a4_3 w9 h ∧ z1 = 18) := by
  refine NT_of_CT (fun _ _ _ q => by cases q.1) (CT_of_J ⟨rfl, rfl⟩ (Nat.le_of_ble_eq_true rfl) (J_forget (lsp_at 2 _) (jq (fun Q hQ => ?_))))
  refine J_aload_n (pc := 0) dX2_add_0 rfl ?_
  refine J_get (pc := 1) (fs := [.ref 14, .ref 15, .int 4]) (v := .int 4) dX2_add_1 kc2 fl_X2_18 (by first | rfl | assumption) rfl ?_
  refine J_aload_n (pc := 4) dX2_add_4 rfl ?_
  refine J_get (pc := 5) (fs := [.ref 14, .ref 15, .int 4]) (v := .ref 14) dX2_add_5 kc2 fl_X2_9 (by first | rfl | assumption) rfl ?_
  refine J_alen (pc := 8) (t := 0) (n := 150) (w := 150) (x := .inl w9) dX2_add_8 (by decide) (by first | rfl | assumption) rfl ?_
  refine J_icmp_ge (pc := 9) (tgt := 32) dX2_add_9 (by decide) (fun c9 => absurd c9 (by decide)) (fun _ => ?_)
  refine J_aload_n (pc := 12) dX2_add_12 rfl ?_
  refine J_get (pc := 13) (fs := [.ref 14, .ref 15, .int 4]) (v := .ref 14) dX2_add_13 kc2 fl_X2_9 (by first | rfl | assumption) rfl ?_
  refine J_aload_n (pc := 16) dX2_add_16 rfl ?_
  refine J_get (pc := 17) (fs := [.ref 14, .ref 15, .int 4]) (v := .int 4) dX2_add_17 kc2 fl_X2_18 (by first | rfl | assumption) rfl ?_
  refine J_iload_n (pc := 20) dX2_add_20 rfl ?_
  refine J_iast (pc := 21) (n := 150) (f := w9) dX2_add_21 (by first | rfl | assumption) (vp_in_nI (n := 4) (N := 150) (by decide) (by decide)) ?_
  refine J_aload_n (pc := 22) dX2_add_22 rfl ?_
  refine J_dup (pc := 23) dX2_add_23 rfl ?_
  refine J_get (pc := 24) (fs := [.ref 14, .ref 15, .int 4]) (v := .int 4) dX2_add_24 kc2 fl_X2_18 (by first | rfl | assumption) rfl ?_
  refine J_iconst (pc := 27) (v := 1) dX2_add_27 (by decide) ?_
  refine J_iadd (pc := 28) dX2_add_28 ?_
  refine J_t1 (y := 5) (by decide) ?_
  refine J_put (pc := 29) (fs := [.ref 14, .ref 15, .int 4]) (v := .int 5) dX2_add_29 kc2 fl_X2_18 rfl (by first | rfl | assumption) (Nat.le_of_ble_eq_true rfl) rfl rfl ?_
  exact J_ret (pc := 32) rfl rfl dX2_add_32 hQ
def kX2a5_3 (w9 : Nat → Int32) (h : AH) : AH := (hup (hup h 14 (.inl (0, 150, .inl (upd w9 (5 : Int32).toNatClampNeg 2002)))) 13 (.inr (2, [.ref 14, .ref 15, .int 5].set 2 (.int 6))))
set_option maxRecDepth 4000 in
theorem nX2a5_3 {g : Gp} {h : AH} {w9 : Nat → Int32} (a13 : h 13 = some (.inr (2, [.ref 14, .ref 15, .int 5]))) (a14 : h 14 = some (.inl (0, 150, .inl w9))) : NT g mX2_add 0 0 0 [.ref 13, .int 2002] h 18 (fun o h1 z1 => o = .inl none ∧ h1 = kX2a5_3 w9 h ∧ z1 = 18) := by
  refine NT_of_CT (fun _ _ _ q => by cases q.1) (CT_of_J ⟨rfl, rfl⟩ (Nat.le_of_ble_eq_true rfl) (J_forget (lsp_at 2 _) (jq (fun Q hQ => ?_))))
  refine J_aload_n (pc := 0) dX2_add_0 rfl ?_
  refine J_get (pc := 1) (fs := [.ref 14, .ref 15, .int 5]) (v := .int 5) dX2_add_1 kc2 fl_X2_18 (by first | rfl | assumption) rfl ?_
  refine J_aload_n (pc := 4) dX2_add_4 rfl ?_
  refine J_get (pc := 5) (fs := [.ref 14, .ref 15, .int 5]) (v := .ref 14) dX2_add_5 kc2 fl_X2_9 (by first | rfl | assumption) rfl ?_
  refine J_alen (pc := 8) (t := 0) (n := 150) (w := 150) (x := .inl w9) dX2_add_8 (by decide) (by first | rfl | assumption) rfl ?_
  refine J_icmp_ge (pc := 9) (tgt := 32) dX2_add_9 (by decide) (fun c9 => absurd c9 (by decide)) (fun _ => ?_)
  refine J_aload_n (pc := 12) dX2_add_12 rfl ?_
  refine J_get (pc := 13) (fs := [.ref 14, .ref 15, .int 5]) (v := .ref 14) dX2_add_13 kc2 fl_X2_9 (by first | rfl | assumption) rfl ?_
  refine J_aload_n (pc := 16) dX2_add_16 rfl ?_
  refine J_get (pc := 17) (fs := [.ref 14, .ref 15, .int 5]) (v := .int 5) dX2_add_17 kc2 fl_X2_18 (by first | rfl | assumption) rfl ?_
  refine J_iload_n (pc := 20) dX2_add_20 rfl ?_
  refine J_iast (pc := 21) (n := 150) (f := w9) dX2_add_21 (by first | rfl | assumption) (vp_in_nI (n := 5) (N := 150) (by decide) (by decide)) ?_
  refine J_aload_n (pc := 22) dX2_add_22 rfl ?_
  refine J_dup (pc := 23) dX2_add_23 rfl ?_
  refine J_get (pc := 24) (fs := [.ref 14, .ref 15, .int 5]) (v := .int 5) dX2_add_24 kc2 fl_X2_18 (by first | rfl | assumption) rfl ?_
  refine J_iconst (pc := 27) (v := 1) dX2_add_27 (by decide) ?_
  refine J_iadd (pc := 28) dX2_add_28 ?_
  refine J_t1 (y := 6) (by decide) ?_
  refine J_put (pc := 29) (fs := [.ref 14, .ref 15, .int 5]) (v := .int 6) dX2_add_29 kc2 fl_X2_18 rfl (by first | rfl | assumption) (Nat.le_of_ble_eq_true rfl) rfl rfl ?_
  exact J_ret (pc := 32) rfl rfl dX2_add_32 hQ
def kX2a6_3 (w9 : Nat → Int32) (h : AH) : AH := (hup (hup h 14 (.inl (0, 150, .inl (upd w9 (6 : Int32).toNatClampNeg 2001)))) 13 (.inr (2, [.ref 14, .ref 15, .int 6].set 2 (.int 7))))
set_option maxRecDepth 4000 in
theorem nX2a6_3 {g : Gp} {h : AH} {w9 : Nat → Int32} (a13 : h 13 = some (.inr (2, [.ref 14, .ref 15, .int 6]))) (a14 : h 14 = some (.inl (0, 150, .inl w9))) : NT g mX2_add 0 0 0 [.ref 13, .int 2001] h 18 (fun o h1 z1 => o = .inl none ∧ h1 = kX2a6_3 w9 h ∧ z1 = 18) := by
  refine NT_of_CT (fun _ _ _ q => by cases q.1) (CT_of_J ⟨rfl, rfl⟩ (Nat.le_of_ble_eq_true rfl) (J_forget (lsp_at 2 _) (jq (fun Q hQ => ?_))))
  refine J_aload_n (pc := 0) dX2_add_0 rfl ?_
  refine J_get (pc := 1) (fs := [.ref 14, .ref 15, .int 6]) (v := .int 6) dX2_add_1 kc2 fl_X2_18 (by first | rfl | assumption) rfl ?_
  refine J_aload_n (pc := 4) dX2_add_4 rfl ?_
  refine J_get (pc := 5) (fs := [.ref 14, .ref 15, .int 6]) (v := .ref 14) dX2_add_5 kc2 fl_X2_9 (by first | rfl | assumption) rfl ?_
  refine J_alen (pc := 8) (t := 0) (n := 150) (w := 150) (x := .inl w9) dX2_add_8 (by decide) (by first | rfl | assumption) rfl ?_
  refine J_icmp_ge (pc := 9) (tgt := 32) dX2_add_9 (by decide) (fun c9 => absurd c9 (by decide)) (fun _ => ?_)
  refine J_aload_n (pc := 12) dX2_add_12 rfl ?_
  refine J_get (pc := 13) (fs := [.ref 14, .ref 15, .int 6]) (v := .ref 14) dX2_add_13 kc2 fl_X2_9 (by first | rfl | assumption) rfl ?_
  refine J_aload_n (pc := 16) dX2_add_16 rfl ?_
  refine J_get (pc := 17) (fs := [.ref 14, .ref 15, .int 6]) (v := .int 6) dX2_add_17 kc2 fl_X2_18 (by first | rfl | assumption) rfl ?_
  refine J_iload_n (pc := 20) dX2_add_20 rfl ?_
  refine J_iast (pc := 21) (n := 150) (f := w9) dX2_add_21 (by first | rfl | assumption) (vp_in_nI (n := 6) (N := 150) (by decide) (by decide)) ?_
  refine J_aload_n (pc := 22) dX2_add_22 rfl ?_
  refine J_dup (pc := 23) dX2_add_23 rfl ?_
  refine J_get (pc := 24) (fs := [.ref 14, .ref 15, .int 6]) (v := .int 6) dX2_add_24 kc2 fl_X2_18 (by first | rfl | assumption) rfl ?_
  refine J_iconst (pc := 27) (v := 1) dX2_add_27 (by decide) ?_
  refine J_iadd (pc := 28) dX2_add_28 ?_
  refine J_t1 (y := 7) (by decide) ?_
  refine J_put (pc := 29) (fs := [.ref 14, .ref 15, .int 6]) (v := .int 7) dX2_add_29 kc2 fl_X2_18 rfl (by first | rfl | assumption) (Nat.le_of_ble_eq_true rfl) rfl rfl ?_
  exact J_ret (pc := 32) rfl rfl dX2_add_32 hQ
def kX2s_3 (n9 : Int32) (w9 : Nat → Int32) (h : AH) : AH := (kX2a6_3 (upd (upd (upd (upd (upd (upd w9 (0 : Int32).toNatClampNeg 1000) (1 : Int32).toNatClampNeg 1001) (2 : Int32).toNatClampNeg 2000) (3 : Int32).toNatClampNeg 1002) (4 : Int32).toNatClampNeg 2) (5 : Int32).toNatClampNeg 2002) (kX2a5_3 (upd (upd (upd (upd (upd w9 (0 : Int32).toNatClampNeg 1000) (1 : Int32).toNatClampNeg 1001) (2 : Int32).toNatClampNeg 2000) (3 : Int32).toNatClampNeg 1002) (4 : Int32).toNatClampNeg 2) (kX2a4_3 (upd (upd (upd (upd w9 (0 : Int32).toNatClampNeg 1000) (1 : Int32).toNatClampNeg 1001) (2 : Int32).toNatClampNeg 2000) (3 : Int32).toNatClampNeg 1002) (kX2a3_3 (upd (upd (upd w9 (0 : Int32).toNatClampNeg 1000) (1 : Int32).toNatClampNeg 1001) (2 : Int32).toNatClampNeg 2000) (kX2a2_3 (upd (upd w9 (0 : Int32).toNatClampNeg 1000) (1 : Int32).toNatClampNeg 1001) (kX2a1_3 (upd w9 (0 : Int32).toNatClampNeg 1000) (kX2a0_3 w9 (hup h 13 (.inr (2, [.ref 14, .ref 15, .int n9].set 2 (.int 0)))))))))))
set_option maxRecDepth 4000 in
theorem nX2s_3 {g : Gp} {h : AH} {n9 : Int32} {w9 : Nat → Int32} (a13 : h 13 = some (.inr (2, [.ref 14, .ref 15, .int n9]))) (a14 : h 14 = some (.inl (0, 150, .inl w9))) : NT g mX2_setPlain 1 0 0 [.ref 13] h 18 (fun o h1 z1 => o = .inl none ∧ h1 = kX2s_3 n9 w9 h ∧ z1 = 18) := by
  refine NT_of_CT (fun _ _ _ q => by cases q.1) (CT_of_J ⟨rfl, rfl⟩ (Nat.le_of_ble_eq_true rfl) (J_forget (lsp_at 1 _) (jq (fun Q hQ => ?_))))
  refine J_aload_n (pc := 0) dX2_setPlain_0 rfl ?_
  refine J_iconst (pc := 1) (v := 0) dX2_setPlain_1 (by decide) ?_
  refine J_put (pc := 2) (fs := [.ref 14, .ref 15, .int n9]) (v := .int 0) dX2_setPlain_2 kc2 fl_X2_18 rfl (by first | rfl | assumption) (Nat.le_of_ble_eq_true rfl) rfl rfl ?_
  refine J_aload_n (pc := 5) dX2_setPlain_5 rfl ?_
  refine J_sipush (pc := 6) (v := 1000) dX2_setPlain_6 (by decide) ?_
  refine J_cv (pc := 9) (N := mX2_add) dX2_setPlain_9 ml_X2_22 cf_X2_add cv_X2_add (nX2a0_3 (w9 := w9) (by first | rfl | assumption) (by first | rfl | assumption)) rfl rfl (Nat.le_of_ble_eq_true rfl) (by decide) (by decide) (by decide) (rw_of (ci := 2) (fs := [.ref 14, .ref 15, .int 0]) (by first | rfl | assumption) rfl rfl) (fun v9 h9 z9 q9 => ?_)
  obtain ⟨e9, rfl, rfl⟩ := q9
  cases e9
  refine J_aload_n (pc := 12) dX2_setPlain_12 rfl ?_
  refine J_sipush (pc := 13) (v := 1001) dX2_setPlain_13 (by decide) ?_
  refine J_cv (pc := 16) (N := mX2_add) dX2_setPlain_16 ml_X2_22 cf_X2_add cv_X2_add (nX2a1_3 (w9 := (upd w9 (0 : Int32).toNatClampNeg 1000)) (by first | rfl | assumption) (by first | rfl | assumption)) rfl rfl (Nat.le_of_ble_eq_true rfl) (by decide) (by decide) (by decide) (rw_of (ci := 2) (fs := [.ref 14, .ref 15, .int 1]) (by first | rfl | assumption) rfl rfl) (fun v9 h9 z9 q9 => ?_)
  obtain ⟨e9, rfl, rfl⟩ := q9
  cases e9
  refine J_aload_n (pc := 19) dX2_setPlain_19 rfl ?_
  refine J_sipush (pc := 20) (v := 2000) dX2_setPlain_20 (by decide) ?_
  refine J_cv (pc := 23) (N := mX2_add) dX2_setPlain_23 ml_X2_22 cf_X2_add cv_X2_add (nX2a2_3 (w9 := (upd (upd w9 (0 : Int32).toNatClampNeg 1000) (1 : Int32).toNatClampNeg 1001)) (by first | rfl | assumption) (by first | rfl | assumption)) rfl rfl (Nat.le_of_ble_eq_true rfl) (by decide) (by decide) (by decide) (rw_of (ci := 2) (fs := [.ref 14, .ref 15, .int 2]) (by first | rfl | assumption) rfl rfl) (fun v9 h9 z9 q9 => ?_)
  obtain ⟨e9, rfl, rfl⟩ := q9
  cases e9
  refine J_aload_n (pc := 26) dX2_setPlain_26 rfl ?_
  refine J_sipush (pc := 27) (v := 1002) dX2_setPlain_27 (by decide) ?_
  refine J_cv (pc := 30) (N := mX2_add) dX2_setPlain_30 ml_X2_22 cf_X2_add cv_X2_add (nX2a3_3 (w9 := (upd (upd (upd w9 (0 : Int32).toNatClampNeg 1000) (1 : Int32).toNatClampNeg 1001) (2 : Int32).toNatClampNeg 2000)) (by first | rfl | assumption) (by first | rfl | assumption)) rfl rfl (Nat.le_of_ble_eq_true rfl) (by decide) (by decide) (by decide) (rw_of (ci := 2) (fs := [.ref 14, .ref 15, .int 3]) (by first | rfl | assumption) rfl rfl) (fun v9 h9 z9 q9 => ?_)
  obtain ⟨e9, rfl, rfl⟩ := q9
  cases e9
  refine J_aload_n (pc := 33) dX2_setPlain_33 rfl ?_
  refine J_iconst (pc := 34) (v := 2) dX2_setPlain_34 (by decide) ?_
  refine J_cv (pc := 35) (N := mX2_add) dX2_setPlain_35 ml_X2_22 cf_X2_add cv_X2_add (nX2a4_3 (w9 := (upd (upd (upd (upd w9 (0 : Int32).toNatClampNeg 1000) (1 : Int32).toNatClampNeg 1001) (2 : Int32).toNatClampNeg 2000) (3 : Int32).toNatClampNeg 1002)) (by first | rfl | assumption) (by first | rfl | assumption)) rfl rfl (Nat.le_of_ble_eq_true rfl) (by decide) (by decide) (by decide) (rw_of (ci := 2) (fs := [.ref 14, .ref 15, .int 4]) (by first | rfl | assumption) rfl rfl) (fun v9 h9 z9 q9 => ?_)
  obtain ⟨e9, rfl, rfl⟩ := q9
  cases e9
  refine J_aload_n (pc := 38) dX2_setPlain_38 rfl ?_
  refine J_sipush (pc := 39) (v := 2002) dX2_setPlain_39 (by decide) ?_
  refine J_cv (pc := 42) (N := mX2_add) dX2_setPlain_42 ml_X2_22 cf_X2_add cv_X2_add (nX2a5_3 (w9 := (upd (upd (upd (upd (upd w9 (0 : Int32).toNatClampNeg 1000) (1 : Int32).toNatClampNeg 1001) (2 : Int32).toNatClampNeg 2000) (3 : Int32).toNatClampNeg 1002) (4 : Int32).toNatClampNeg 2)) (by first | rfl | assumption) (by first | rfl | assumption)) rfl rfl (Nat.le_of_ble_eq_true rfl) (by decide) (by decide) (by decide) (rw_of (ci := 2) (fs := [.ref 14, .ref 15, .int 5]) (by first | rfl | assumption) rfl rfl) (fun v9 h9 z9 q9 => ?_)
  obtain ⟨e9, rfl, rfl⟩ := q9
  cases e9
  refine J_aload_n (pc := 45) dX2_setPlain_45 rfl ?_
  refine J_sipush (pc := 46) (v := 2001) dX2_setPlain_46 (by decide) ?_
  refine J_cv (pc := 49) (N := mX2_add) dX2_setPlain_49 ml_X2_22 cf_X2_add cv_X2_add (nX2a6_3 (w9 := (upd (upd (upd (upd (upd (upd w9 (0 : Int32).toNatClampNeg 1000) (1 : Int32).toNatClampNeg 1001) (2 : Int32).toNatClampNeg 2000) (3 : Int32).toNatClampNeg 1002) (4 : Int32).toNatClampNeg 2) (5 : Int32).toNatClampNeg 2002)) (by first | rfl | assumption) (by first | rfl | assumption)) rfl rfl (Nat.le_of_ble_eq_true rfl) (by decide) (by decide) (by decide) (rw_of (ci := 2) (fs := [.ref 14, .ref 15, .int 6]) (by first | rfl | assumption) rfl rfl) (fun v9 h9 z9 q9 => ?_)
  obtain ⟨e9, rfl, rfl⟩ := q9
  cases e9
  exact J_ret (pc := 52) rfl rfl dX2_setPlain_52 hQ
def kX0b3 (n9 : Int32) (w9 : Nat → Int32) (h : AH) : AH := (kX2s_3 n9 w9 (hup (hup h 16 (.inl (0, 31, .inl (fillN (fun _ => 0) (fun i => if i < 23 then 0 else -1) 0 31)))) 16 (.inl (0, 31, .inl (upd (fillN (fun _ => 0) (fun i => if i < 23 then 0 else -1) 0 31) (1 : Int32).toNatClampNeg 0)))))
set_option maxRecDepth 4000 in
theorem nX0b3 {g : Gp} {h : AH} {n9 : Int32} {w9 : Nat → Int32} (a3 : h 3 = some (.inr (0, [.ref 16, .ref 17, .ref 4, .ref 13]))) (a16 : h 16 = some (.inl (0, 31, .inl (fun _ => 0)))) (a4 : h 4 = some (.inr (1, [.ref 5, .ref 6, .ref 7, .ref 8, .ref 9, .ref 10, .ref 11, .ref 12, .int 0, .int 0, .int 0]))) (a13 : h 13 = some (.inr (2, [.ref 14, .ref 15, .int n9]))) (a14 : h 14 = some (.inl (0, 150, .inl w9))) : NT g mX0_begin 2 0 0 [.ref 3] h 18 (fun o h1 z1 => o = .inl none ∧ h1 = kX0b3 n9 w9 h ∧ z1 = 18) := by
  refine NT_of_CT (fun _ _ _ q => by cases q.1) (CT_of_J ⟨rfl, rfl⟩ (Nat.le_of_ble_eq_true rfl) (J_forget (lsp_at 2 _) (jq (fun Q hQ => ?_))))
  refine J_iconst (pc := 0) (v := 0) dX0_begin_0 (by decide) ?_
  refine J_istore_n (pc := 1) dX0_begin_1 (by decide) rfl ?_
  refine J_hp (hup_id (a := 16) (x := .inl (0, 31, .inl (fun _ => 0))) (by first | rfl | assumption)).symm ?_
  have hloop : ∀ i, i ≤ 31 → J g mX0_begin 2 [] 2 [some (.ref 3), some (.int (ix i))] [] (hup h 16 (.inl (0, 31, .inl (fillN (fun _ => 0) (fun i => if i < 23 then 0 else -1) 0 i)))) 18 0 0 Q := by
    refine dn_ind ?_ (fun i hi ih => ?_)
    · refine J_iload_n (pc := 2) dX0_begin_2 rfl ?_
      refine J_bipush (pc := 3) (v := 31) dX0_begin_3 (by decide) ?_
      refine J_icmp_ge (pc := 5) (tgt := 31) dX0_begin_5 (by decide) (fun _ => ?_) (fun c9 => absurd (ix_ge (n := 31) rfl) c9)
      refine J_aload_n (pc := 31) dX0_begin_31 rfl ?_
      refine J_get (pc := 32) (fs := [.ref 16, .ref 17, .ref 4, .ref 13]) (v := .ref 16) dX0_begin_32 kc0 fl_X0_11 (by first | rfl | assumption) rfl ?_
      refine J_iconst (pc := 35) (v := 1) dX0_begin_35 (by decide) ?_
      refine J_iconst (pc := 36) (v := 1) dX0_begin_36 (by decide) ?_
      refine J_aload_n (pc := 37) dX0_begin_37 rfl ?_
      refine J_get (pc := 38) (fs := [.ref 16, .ref 17, .ref 4, .ref 13]) (v := .ref 4) dX0_begin_38 kc0 fl_X0_20 (by first | rfl | assumption) rfl ?_
      refine J_getN (pc := 41) (fs := [.ref 5, .ref 6, .ref 7, .ref 8, .ref 9, .ref 10, .ref 11, .ref 12, .int 0, .int 0, .int 0]) (v := .int 0) dX0_begin_41 kc1 fl_X0_31 (by first | rfl | assumption) rfl ?_
      refine J_ishl (pc := 44) dX0_begin_44 ?_
      refine J_t1 (y := 1) (by decide) ?_
      refine J_iconst (pc := 45) (v := 1) dX0_begin_45 (by decide) ?_
      refine J_isub (pc := 46) dX0_begin_46 ?_
      refine J_t1 (y := 0) (by decide) ?_
      refine J_iast (pc := 47) (n := 31) (f := (fillN (fun _ => 0) (fun i => if i < 23 then 0 else -1) 0 31)) dX0_begin_47 (by first | rfl | assumption) (vp_in_nI (n := 1) (N := 31) (by decide) (by decide)) ?_
      refine J_aload_n (pc := 48) dX0_begin_48 rfl ?_
      refine J_get (pc := 49) (fs := [.ref 16, .ref 17, .ref 4, .ref 13]) (v := .ref 13) dX0_begin_49 kc0 fl_X0_24 (by first | rfl | assumption) rfl ?_
      refine J_cvN (pc := 52) (N := mX2_setPlain) dX0_begin_52 ml_X0_37 cf_X2_setPlain cv_X2_setPlain (nX2s_3 (n9 := n9) (w9 := w9) (by first | rfl | assumption) (by first | rfl | assumption)) rfl rfl (Nat.le_of_ble_eq_true rfl) (by decide) (by decide) (by decide) (rw_of (ci := 2) (fs := [.ref 14, .ref 15, .int n9]) (by first | rfl | assumption) rfl rfl) (fun v9 h9 z9 q9 => ?_)
      obtain ⟨e9, rfl, rfl⟩ := q9
      cases e9
      exact J_ret (pc := 55) rfl rfl dX0_begin_55 hQ
    · refine J_iload_n (pc := 2) dX0_begin_2 rfl ?_
      refine J_bipush (pc := 3) (v := 31) dX0_begin_3 (by decide) ?_
      refine J_icmp_ge (pc := 5) (tgt := 31) dX0_begin_5 (by decide) (fun c9 => absurd c9 (ix_lt (n := 31) rfl hi (by decide))) (fun _ => ?_)
      refine J_aload_n (pc := 8) dX0_begin_8 rfl ?_
      refine J_get (pc := 9) (fs := [.ref 16, .ref 17, .ref 4, .ref 13]) (v := .ref 16) dX0_begin_9 kc0 fl_X0_11 (by first | rfl | assumption) rfl ?_
      refine J_iload_n (pc := 12) dX0_begin_12 rfl ?_
      refine J_iload_n (pc := 13) dX0_begin_13 rfl ?_
      refine J_bipush (pc := 14) (v := 23) dX0_begin_14 (by decide) ?_
      refine J_icmp_ge (pc := 16) (tgt := 23) dX0_begin_16 (by decide) (fun c16 => ?_) (fun c16 => ?_)
      · refine J_iconst (pc := 23) (v := -1) dX0_begin_23 (by decide) ?_
        refine J_t1 (y := (fun i : Nat => if i < 23 then (0 : Int32) else -1) i) (if_neg (Nat.not_lt.mpr ((v23 i hi).mp c16))).symm ?_
        refine J_isR (pc := 24) dX0_begin_24 (ix_nI i) ⟨hi, by decide⟩ ?_
        refine J_iinc (pc := 25) (v := 1) dX0_begin_25 rfl (by decide) rfl ?_
        refine J_goto (pc := 28) (tgt := 2) dX0_begin_28 (by decide) ?_
        exact ih
      · refine J_iconst (pc := 19) (v := 0) dX0_begin_19 (by decide) ?_
        refine J_goto (pc := 20) (tgt := 24) dX0_begin_20 (by decide) ?_
        refine J_t1 (y := (fun i : Nat => if i < 23 then (0 : Int32) else -1) i) (if_pos (Nat.not_le.mp (fun q => c16 ((v23 i hi).mpr q)))).symm ?_
        refine J_isR (pc := 24) dX0_begin_24 (ix_nI i) ⟨hi, by decide⟩ ?_
        refine J_iinc (pc := 25) (v := 1) dX0_begin_25 rfl (by decide) rfl ?_
        refine J_goto (pc := 28) (tgt := 2) dX0_begin_28 (by decide) ?_
        exact ih
  exact hloop 0 (Nat.zero_le _)
def kX0i3 (n9 : Int32) (w9 : Nat → Int32) (h : AH) : AH := (kX0b3 n9 w9 (hup (hup (hup (hup (hup (hup h 16 (.inl (0, 31, .inl (fun _ => 0)))) 3 (.inr (0, [.null, .null, .null, .null].set 0 (.ref 16)))) 17 (.inl (0, 8, .inl (fun _ => 0)))) 3 (.inr (0, [.ref 16, .null, .null, .null].set 1 (.ref 17)))) 3 (.inr (0, [.ref 16, .ref 17, .null, .null].set 2 (.ref 4)))) 3 (.inr (0, [.ref 16, .ref 17, .ref 4, .null].set 3 (.ref 13)))))
set_option maxRecDepth 4000 in
theorem nX0i3 {g : Gp} {h : AH} {n9 : Int32} {w9 : Nat → Int32} (a3 : h 3 = some (.inr (0, [.null, .null, .null, .null]))) (a4 : h 4 = some (.inr (1, [.ref 5, .ref 6, .ref 7, .ref 8, .ref 9, .ref 10, .ref 11, .ref 12, .int 0, .int 0, .int 0]))) (a13 : h 13 = some (.inr (2, [.ref 14, .ref 15, .int n9]))) (a14 : h 14 = some (.inl (0, 150, .inl w9))) : NT g mX0_init 3 2 39 [.ref 3, .ref 4, .ref 13] h 16 (fun o h1 z1 => o = .inl none ∧ h1 = kX0i3 n9 w9 h ∧ z1 = 18) := by
  refine NT_of_CT (fun _ _ _ q => by cases q.1) (CT_of_J ⟨rfl, rfl⟩ (Nat.le_of_ble_eq_true rfl) (J_forget (lsp_at 3 _) (jq (fun Q hQ => ?_))))
  refine J_aload_n (pc := 0) dX0_init_0 rfl ?_
  refine J_obj (pc := 1) dX0_init_1 ⟨List.mem_of_getElem? (i := 312) rfl, rfl⟩ oi_i oi_c (by decide) ?_
  refine J_aload_n (pc := 4) dX0_init_4 rfl ?_
  refine J_bipush (pc := 5) (v := 31) dX0_init_5 (by decide) ?_
  refine J_na (pc := 7) (t := 0) (n := 31) (z := .inl (fun _ => 0)) dX0_init_7 rfl (fun _ q => q) ac_i ⟨by decide, by decide⟩ (by decide) (fun _ => rfl) (by decide) (by decide) (by decide) ?_
  refine J_putF (pc := 9) (fs := [.null, .null, .null, .null]) (v := .ref 16) dX0_init_9 kc0 fl_X0_11 ⟨rfl, rfl, rfl⟩ (by first | rfl | assumption) (Nat.le_of_ble_eq_true rfl) rfl rfl ?_
  refine J_aload_n (pc := 12) dX0_init_12 rfl ?_
  refine J_bipush (pc := 13) (v := 8) dX0_init_13 (by decide) ?_
  refine J_na (pc := 15) (t := 0) (n := 8) (z := .inl (fun _ => 0)) dX0_init_15 rfl (fun _ q => q) ac_i ⟨by decide, by decide⟩ (by decide) (fun _ => rfl) (by decide) (by decide) (by decide) ?_
  refine J_putF (pc := 17) (fs := [.ref 16, .null, .null, .null]) (v := .ref 17) dX0_init_17 kc0 fl_X0_17 ⟨rfl, rfl, rfl⟩ (by first | rfl | assumption) (Nat.le_of_ble_eq_true rfl) rfl rfl ?_
  refine J_aload_n (pc := 20) dX0_init_20 rfl ?_
  refine J_aload_n (pc := 21) dX0_init_21 rfl ?_
  refine J_put (pc := 22) (fs := [.ref 16, .ref 17, .null, .null]) (v := .ref 4) dX0_init_22 kc0 fl_X0_20 rfl (by first | rfl | assumption) (Nat.le_of_ble_eq_true rfl) rfl rfl ?_
  refine J_aload_n (pc := 25) dX0_init_25 rfl ?_
  refine J_aload_n (pc := 26) dX0_init_26 rfl ?_
  refine J_put (pc := 27) (fs := [.ref 16, .ref 17, .ref 4, .null]) (v := .ref 13) dX0_init_27 kc0 fl_X0_24 rfl (by first | rfl | assumption) (Nat.le_of_ble_eq_true rfl) rfl rfl ?_
  refine J_aload_n (pc := 30) dX0_init_30 rfl ?_
  refine J_cv (pc := 31) (N := mX0_begin) dX0_init_31 ml_X0_28 cf_X0_begin cv_X0_begin (nX0b3 (n9 := n9) (w9 := w9) (by first | rfl | assumption) (by first | rfl | assumption) (by first | rfl | assumption) (by first | rfl | assumption) (by first | rfl | assumption)) rfl rfl (Nat.le_of_ble_eq_true rfl) (by decide) (by decide) (by decide) (rw_of (ci := 0) (fs := [.ref 16, .ref 17, .ref 4, .ref 13]) (by first | rfl | assumption) rfl rfl) (fun v9 h9 z9 q9 => ?_)
  obtain ⟨e9, rfl, rfl⟩ := q9
  cases e9
  exact J_ret (pc := 34) rfl rfl dX0_init_34 hQ
def kX2a0_29 (w9 : Nat → Int32) (h : AH) : AH := (hup (hup h 14 (.inl (0, 150, .inl (upd w9 (0 : Int32).toNatClampNeg 1000)))) 13 (.inr (2, [.ref 14, .ref 15, .int 0].set 2 (.int 1))))
set_option maxRecDepth 4000 in
theorem nX2a0_29 {g : Gp} {h : AH} {w9 : Nat → Int32} (a13 : h 13 = some (.inr (2, [.ref 14, .ref 15, .int 0]))) (a14 : h 14 = some (.inl (0, 150, .inl w9))) : NT g mX2_add 0 0 0 [.ref 13, .int 1000] h 32 (fun o h1 z1 => o = .inl none ∧ h1 = kX2a0_29 w9 h ∧ z1 = 32) := by
  refine NT_of_CT (fun _ _ _ q => by cases q.1) (CT_of_J ⟨rfl, rfl⟩ (Nat.le_of_ble_eq_true rfl) (J_forget (lsp_at 2 _) (jq (fun Q hQ => ?_))))
  refine J_aload_n (pc := 0) dX2_add_0 rfl ?_
  refine J_get (pc := 1) (fs := [.ref 14, .ref 15, .int 0]) (v := .int 0) dX2_add_1 kc2 fl_X2_18 (by first | rfl | assumption) rfl ?_
  refine J_aload_n (pc := 4) dX2_add_4 rfl ?_
  refine J_get (pc := 5) (fs := [.ref 14, .ref 15, .int 0]) (v := .ref 14) dX2_add_5 kc2 fl_X2_9 (by first | rfl | assumption) rfl ?_
  refine J_alen (pc := 8) (t := 0) (n := 150) (w := 150) (x := .inl w9) dX2_add_8 (by decide) (by first | rfl | assumption) rfl ?_
  refine J_icmp_ge (pc := 9) (tgt := 32) dX2_add_9 (by decide) (fun c9 => absurd c9 (by decide)) (fun _ => ?_)
  refine J_aload_n (pc := 12) dX2_add_12 rfl ?_
  refine J_get (pc := 13) (fs := [.ref 14, .ref 15, .int 0]) (v := .ref 14) dX2_add_13 kc2 fl_X2_9 (by first | rfl | assumption) rfl ?_
  refine J_aload_n (pc := 16) dX2_add_16 rfl ?_
  refine J_get (pc := 17) (fs := [.ref 14, .ref 15, .int 0]) (v := .int 0) dX2_add_17 kc2 fl_X2_18 (by first | rfl | assumption) rfl ?_
  refine J_iload_n (pc := 20) dX2_add_20 rfl ?_
  refine J_iast (pc := 21) (n := 150) (f := w9) dX2_add_21 (by first | rfl | assumption) (vp_in_nI (n := 0) (N := 150) (by decide) (by decide)) ?_
  refine J_aload_n (pc := 22) dX2_add_22 rfl ?_
  refine J_dup (pc := 23) dX2_add_23 rfl ?_
  refine J_get (pc := 24) (fs := [.ref 14, .ref 15, .int 0]) (v := .int 0) dX2_add_24 kc2 fl_X2_18 (by first | rfl | assumption) rfl ?_
  refine J_iconst (pc := 27) (v := 1) dX2_add_27 (by decide) ?_
  refine J_iadd (pc := 28) dX2_add_28 ?_
  refine J_t1 (y := 1) (by decide) ?_
  refine J_put (pc := 29) (fs := [.ref 14, .ref 15, .int 0]) (v := .int 1) dX2_add_29 kc2 fl_X2_18 rfl (by first | rfl | assumption) (Nat.le_of_ble_eq_true rfl) rfl rfl ?_
  exact J_ret (pc := 32) rfl rfl dX2_add_32 hQ
def kX2a1_29 (w9 : Nat → Int32) (h : AH) : AH := (hup (hup h 14 (.inl (0, 150, .inl (upd w9 (1 : Int32).toNatClampNeg 1001)))) 13 (.inr (2, [.ref 14, .ref 15, .int 1].set 2 (.int 2))))
set_option maxRecDepth 4000 in
theorem nX2a1_29 {g : Gp} {h : AH} {w9 : Nat → Int32} (a13 : h 13 = some (.inr (2, [.ref 14, .ref 15, .int 1]))) (a14 : h 14 = some (.inl (0, 150, .inl w9))) : NT g mX2_add 0 0 0 [.ref 13, .int 1001] h 32 (fun o h1 z1 => o = .inl none ∧ h1 = kX2a1_29 w9 h ∧ z1 = 32) := by
  refine NT_of_CT (fun _ _ _ q => by cases q.1) (CT_of_J ⟨rfl, rfl⟩ (Nat.le_of_ble_eq_true rfl) (J_forget (lsp_at 2 _) (jq (fun Q hQ => ?_))))
  refine J_aload_n (pc := 0) dX2_add_0 rfl ?_
  refine J_get (pc := 1) (fs := [.ref 14, .ref 15, .int 1]) (v := .int 1) dX2_add_1 kc2 fl_X2_18 (by first | rfl | assumption) rfl ?_
  refine J_aload_n (pc := 4) dX2_add_4 rfl ?_
  refine J_get (pc := 5) (fs := [.ref 14, .ref 15, .int 1]) (v := .ref 14) dX2_add_5 kc2 fl_X2_9 (by first | rfl | assumption) rfl ?_
  refine J_alen (pc := 8) (t := 0) (n := 150) (w := 150) (x := .inl w9) dX2_add_8 (by decide) (by first | rfl | assumption) rfl ?_
  refine J_icmp_ge (pc := 9) (tgt := 32) dX2_add_9 (by decide) (fun c9 => absurd c9 (by decide)) (fun _ => ?_)
  refine J_aload_n (pc := 12) dX2_add_12 rfl ?_
  refine J_get (pc := 13) (fs := [.ref 14, .ref 15, .int 1]) (v := .ref 14) dX2_add_13 kc2 fl_X2_9 (by first | rfl | assumption) rfl ?_
  refine J_aload_n (pc := 16) dX2_add_16 rfl ?_
  refine J_get (pc := 17) (fs := [.ref 14, .ref 15, .int 1]) (v := .int 1) dX2_add_17 kc2 fl_X2_18 (by first | rfl | assumption) rfl ?_
  refine J_iload_n (pc := 20) dX2_add_20 rfl ?_
  refine J_iast (pc := 21) (n := 150) (f := w9) dX2_add_21 (by first | rfl | assumption) (vp_in_nI (n := 1) (N := 150) (by decide) (by decide)) ?_
  refine J_aload_n (pc := 22) dX2_add_22 rfl ?_
  refine J_dup (pc := 23) dX2_add_23 rfl ?_
  refine J_get (pc := 24) (fs := [.ref 14, .ref 15, .int 1]) (v := .int 1) dX2_add_24 kc2 fl_X2_18 (by first | rfl | assumption) rfl ?_
  refine J_iconst (pc := 27) (v := 1) dX2_add_27 (by decide) ?_
  refine J_iadd (pc := 28) dX2_add_28 ?_
  refine J_t1 (y := 2) (by decide) ?_
  refine J_put (pc := 29) (fs := [.ref 14, .ref 15, .int 1]) (v := .int 2) dX2_add_29 kc2 fl_X2_18 rfl (by first | rfl | assumption) (Nat.le_of_ble_eq_true rfl) rfl rfl ?_
  exact J_ret (pc := 32) rfl rfl dX2_add_32 hQ
def kX2a2_29 (w9 : Nat → Int32) (h : AH) : AH := (hup (hup h 14 (.inl (0, 150, .inl (upd w9 (2 : Int32).toNatClampNeg 2000)))) 13 (.inr (2, [.ref 14, .ref 15, .int 2].set 2 (.int 3))))
set_option maxRecDepth 4000 in
theorem nX2a2_29 {g : Gp} {h : AH} {w9 : Nat → Int32} (a13 : h 13 = some (.inr (2, [.ref 14, .ref 15, .int 2]))) (a14 : h 14 = some (.inl (0, 150, .inl w9))) : NT g mX2_add 0 0 0 [.ref 13, .int 2000] h 32 (fun o h1 z1 => o = .inl none ∧ h1 = kX2a2_29 w9 h ∧ z1 = 32) := by
  refine NT_of_CT (fun _ _ _ q => by cases q.1) (CT_of_J ⟨rfl, rfl⟩ (Nat.le_of_ble_eq_true rfl) (J_forget (lsp_at 2 _) (jq (fun Q hQ => ?_))))
  refine J_aload_n (pc := 0) dX2_add_0 rfl ?_
  refine J_get (pc := 1) (fs := [.ref 14, .ref 15, .int 2]) (v := .int 2) dX2_add_1 kc2 fl_X2_18 (by first | rfl | assumption) rfl ?_
  refine J_aload_n (pc := 4) dX2_add_4 rfl ?_
  refine J_get (pc := 5) (fs := [.ref 14, .ref 15, .int 2]) (v := .ref 14) dX2_add_5 kc2 fl_X2_9 (by first | rfl | assumption) rfl ?_
  refine J_alen (pc := 8) (t := 0) (n := 150) (w := 150) (x := .inl w9) dX2_add_8 (by decide) (by first | rfl | assumption) rfl ?_
  refine J_icmp_ge (pc := 9) (tgt := 32) dX2_add_9 (by decide) (fun c9 => absurd c9 (by decide)) (fun _ => ?_)
  refine J_aload_n (pc := 12) dX2_add_12 rfl ?_
  refine J_get (pc := 13) (fs := [.ref 14, .ref 15, .int 2]) (v := .ref 14) dX2_add_13 kc2 fl_X2_9 (by first | rfl | assumption) rfl ?_
  refine J_aload_n (pc := 16) dX2_add_16 rfl ?_
  refine J_get (pc := 17) (fs := [.ref 14, .ref 15, .int 2]) (v := .int 2) dX2_add_17 kc2 fl_X2_18 (by first | rfl | assumption) rfl ?_
  refine J_iload_n (pc := 20) dX2_add_20 rfl ?_
  refine J_iast (pc := 21) (n := 150) (f := w9) dX2_add_21 (by first | rfl | assumption) (vp_in_nI (n := 2) (N := 150) (by decide) (by decide)) ?_
  refine J_aload_n (pc := 22) dX2_add_22 rfl ?_
  refine J_dup (pc := 23) dX2_add_23 rfl ?_
  refine J_get (pc := 24) (fs := [.ref 14, .ref 15, .int 2]) (v := .int 2) dX2_add_24 kc2 fl_X2_18 (by first | rfl | assumption) rfl ?_
  refine J_iconst (pc := 27) (v := 1) dX2_add_27 (by decide) ?_
  refine J_iadd (pc := 28) dX2_add_28 ?_
  refine J_t1 (y := 3) (by decide) ?_
  refine J_put (pc := 29) (fs := [.ref 14, .ref 15, .int 2]) (v := .int 3) dX2_add_29 kc2 fl_X2_18 rfl (by first | rfl | assumption) (Nat.le_of_ble_eq_true rfl) rfl rfl ?_
  exact J_ret (pc := 32) rfl rfl dX2_add_32 hQ
def kX2a3_29 (w9 : Nat → Int32) (h : AH) : AH := (hup (hup h 14 (.inl (0, 150, .inl (upd w9 (3 : Int32).toNatClampNeg 1002)))) 13 (.inr (2, [.ref 14, .ref 15, .int 3].set 2 (.int 4))))
set_option maxRecDepth 4000 in
theorem nX2a3_29 {g : Gp} {h : AH} {w9 : Nat → Int32} (a13 : h 13 = some (.inr (2, [.ref 14, .ref 15, .int 3]))) (a14 : h 14 = some (.inl (0, 150, .inl w9))) : NT g mX2_add 0 0 0 [.ref 13, .int 1002] h 32 (fun o h1 z1 => o = .inl none ∧ h1 = kX2a3_29 w9 h ∧ z1 = 32) := by
  refine NT_of_CT (fun _ _ _ q => by cases q.1) (CT_of_J ⟨rfl, rfl⟩ (Nat.le_of_ble_eq_true rfl) (J_forget (lsp_at 2 _) (jq (fun Q hQ => ?_))))
  refine J_aload_n (pc := 0) dX2_add_0 rfl ?_
  refine J_get (pc := 1) (fs := [.ref 14, .ref 15, .int 3]) (v := .int 3) dX2_add_1 kc2 fl_X2_18 (by first | rfl | assumption) rfl ?_
  refine J_aload_n (pc := 4) dX2_add_4 rfl ?_
  refine J_get (pc := 5) (fs := [.ref 14, .ref 15, .int 3]) (v := .ref 14) dX2_add_5 kc2 fl_X2_9 (by first | rfl | assumption) rfl ?_
  refine J_alen (pc := 8) (t := 0) (n := 150) (w := 150) (x := .inl w9) dX2_add_8 (by decide) (by first | rfl | assumption) rfl ?_
  refine J_icmp_ge (pc := 9) (tgt := 32) dX2_add_9 (by decide) (fun c9 => absurd c9 (by decide)) (fun _ => ?_)
  refine J_aload_n (pc := 12) dX2_add_12 rfl ?_
  refine J_get (pc := 13) (fs := [.ref 14, .ref 15, .int 3]) (v := .ref 14) dX2_add_13 kc2 fl_X2_9 (by first | rfl | assumption) rfl ?_
  refine J_aload_n (pc := 16) dX2_add_16 rfl ?_
  refine J_get (pc := 17) (fs := [.ref 14, .ref 15, .int 3]) (v := .int 3) dX2_add_17 kc2 fl_X2_18 (by first | rfl | assumption) rfl ?_
  refine J_iload_n (pc := 20) dX2_add_20 rfl ?_
  refine J_iast (pc := 21) (n := 150) (f := w9) dX2_add_21 (by first | rfl | assumption) (vp_in_nI (n := 3) (N := 150) (by decide) (by decide)) ?_
  refine J_aload_n (pc := 22) dX2_add_22 rfl ?_
  refine J_dup (pc := 23) dX2_add_23 rfl ?_
  refine J_get (pc := 24) (fs := [.ref 14, .ref 15, .int 3]) (v := .int 3) dX2_add_24 kc2 fl_X2_18 (by first | rfl | assumption) rfl ?_
  refine J_iconst (pc := 27) (v := 1) dX2_add_27 (by decide) ?_
  refine J_iadd (pc := 28) dX2_add_28 ?_
  refine J_t1 (y := 4) (by decide) ?_
  refine J_put (pc := 29) (fs := [.ref 14, .ref 15, .int 3]) (v := .int 4) dX2_add_29 kc2 fl_X2_18 rfl (by first | rfl | assumption) (Nat.le_of_ble_eq_true rfl) rfl rfl ?_
  exact J_ret (pc := 32) rfl rfl dX2_add_32 hQ
def kX2a4_29 (w9 : Nat → Int32) (h : AH) : AH := (hup (hup h 14 (.inl (0, 150, .inl (upd w9 (4 : Int32).toNatClampNeg 2)))) 13 (.inr (2, [.ref 14, .ref 15, .int 4].set 2 (.int 5))))
set_option maxRecDepth 4000 in
theorem nX2a4_29 {g : Gp} {h : AH} {w9 : Nat → Int32} (a13 : h 13 = some (.inr (2, [.ref 14, .ref 15, .int 4]))) (a14 : h 14 = some (.inl (0, 150, .inl w9))) : NT g mX2_add 0 0 0 [.ref 13, .int 2] h 32 (fun o h1 z1 => o = .inl none ∧ h1 = kX2a4_29 w9 h ∧ z1 = 32) := by
  refine NT_of_CT (fun _ _ _ q => by cases q.1) (CT_of_J ⟨rfl, rfl⟩ (Nat.le_of_ble_eq_true rfl) (J_forget (lsp_at 2 _) (jq (fun Q hQ => ?_))))
  refine J_aload_n (pc := 0) dX2_add_0 rfl ?_
  refine J_get (pc := 1) (fs := [.ref 14, .ref 15, .int 4]) (v := .int 4) dX2_add_1 kc2 fl_X2_18 (by first | rfl | assumption) rfl ?_
  refine J_aload_n (pc := 4) dX2_add_4 rfl ?_
  refine J_get (pc := 5) (fs := [.ref 14, .ref 15, .int 4]) (v := .ref 14) dX2_add_5 kc2 fl_X2_9 (by first | rfl | assumption) rfl ?_
  refine J_alen (pc := 8) (t := 0) (n := 150) (w := 150) (x := .inl w9) dX2_add_8 (by decide) (by first | rfl | assumption) rfl ?_
  refine J_icmp_ge (pc := 9) (tgt := 32) dX2_add_9 (by decide) (fun c9 => absurd c9 (by decide)) (fun _ => ?_)
  refine J_aload_n (pc := 12) dX2_add_12 rfl ?_
  refine J_get (pc := 13) (fs := [.ref 14, .ref 15, .int 4]) (v := .ref 14) dX2_add_13 kc2 fl_X2_9 (by first | rfl | assumption) rfl ?_
  refine J_aload_n (pc := 16) dX2_add_16 rfl ?_
  refine J_get (pc := 17) (fs := [.ref 14, .ref 15, .int 4]) (v := .int 4) dX2_add_17 kc2 fl_X2_18 (by first | rfl | assumption) rfl ?_
  refine J_iload_n (pc := 20) dX2_add_20 rfl ?_
  refine J_iast (pc := 21) (n := 150) (f := w9) dX2_add_21 (by first | rfl | assumption) (vp_in_nI (n := 4) (N := 150) (by decide) (by decide)) ?_
  refine J_aload_n (pc := 22) dX2_add_22 rfl ?_
  refine J_dup (pc := 23) dX2_add_23 rfl ?_
  refine J_get (pc := 24) (fs := [.ref 14, .ref 15, .int 4]) (v := .int 4) dX2_add_24 kc2 fl_X2_18 (by first | rfl | assumption) rfl ?_
  refine J_iconst (pc := 27) (v := 1) dX2_add_27 (by decide) ?_
  refine J_iadd (pc := 28) dX2_add_28 ?_
  refine J_t1 (y := 5) (by decide) ?_
  refine J_put (pc := 29) (fs := [.ref 14, .ref 15, .int 4]) (v := .int 5) dX2_add_29 kc2 fl_X2_18 rfl (by first | rfl | assumption) (Nat.le_of_ble_eq_true rfl) rfl rfl ?_
  exact J_ret (pc := 32) rfl rfl dX2_add_32 hQ
def kX2a5_29 (w9 : Nat → Int32) (h : AH) : AH := (hup (hup h 14 (.inl (0, 150, .inl (upd w9 (5 : Int32).toNatClampNeg 2002)))) 13 (.inr (2, [.ref 14, .ref 15, .int 5].set 2 (.int 6))))
set_option maxRecDepth 4000 in
theorem nX2a5_29 {g : Gp} {h : AH} {w9 : Nat → Int32} (a13 : h 13 = some (.inr (2, [.ref 14, .ref 15, .int 5]))) (a14 : h 14 = some (.inl (0, 150, .inl w9))) : NT g mX2_add 0 0 0 [.ref 13, .int 2002] h 32 (fun o h1 z1 => o = .inl none ∧ h1 = kX2a5_29 w9 h ∧ z1 = 32) := by
  refine NT_of_CT (fun _ _ _ q => by cases q.1) (CT_of_J ⟨rfl, rfl⟩ (Nat.le_of_ble_eq_true rfl) (J_forget (lsp_at 2 _) (jq (fun Q hQ => ?_))))
  refine J_aload_n (pc := 0) dX2_add_0 rfl ?_
  refine J_get (pc := 1) (fs := [.ref 14, .ref 15, .int 5]) (v := .int 5) dX2_add_1 kc2 fl_X2_18 (by first | rfl | assumption) rfl ?_
  refine J_aload_n (pc := 4) dX2_add_4 rfl ?_
  refine J_get (pc := 5) (fs := [.ref 14, .ref 15, .int 5]) (v := .ref 14) dX2_add_5 kc2 fl_X2_9 (by first | rfl | assumption) rfl ?_
  refine J_alen (pc := 8) (t := 0) (n := 150) (w := 150) (x := .inl w9) dX2_add_8 (by decide) (by first | rfl | assumption) rfl ?_
  refine J_icmp_ge (pc := 9) (tgt := 32) dX2_add_9 (by decide) (fun c9 => absurd c9 (by decide)) (fun _ => ?_)
  refine J_aload_n (pc := 12) dX2_add_12 rfl ?_
  refine J_get (pc := 13) (fs := [.ref 14, .ref 15, .int 5]) (v := .ref 14) dX2_add_13 kc2 fl_X2_9 (by first | rfl | assumption) rfl ?_
  refine J_aload_n (pc := 16) dX2_add_16 rfl ?_
  refine J_get (pc := 17) (fs := [.ref 14, .ref 15, .int 5]) (v := .int 5) dX2_add_17 kc2 fl_X2_18 (by first | rfl | assumption) rfl ?_
  refine J_iload_n (pc := 20) dX2_add_20 rfl ?_
  refine J_iast (pc := 21) (n := 150) (f := w9) dX2_add_21 (by first | rfl | assumption) (vp_in_nI (n := 5) (N := 150) (by decide) (by decide)) ?_
  refine J_aload_n (pc := 22) dX2_add_22 rfl ?_
  refine J_dup (pc := 23) dX2_add_23 rfl ?_
  refine J_get (pc := 24) (fs := [.ref 14, .ref 15, .int 5]) (v := .int 5) dX2_add_24 kc2 fl_X2_18 (by first | rfl | assumption) rfl ?_
  refine J_iconst (pc := 27) (v := 1) dX2_add_27 (by decide) ?_
  refine J_iadd (pc := 28) dX2_add_28 ?_
  refine J_t1 (y := 6) (by decide) ?_
  refine J_put (pc := 29) (fs := [.ref 14, .ref 15, .int 5]) (v := .int 6) dX2_add_29 kc2 fl_X2_18 rfl (by first | rfl | assumption) (Nat.le_of_ble_eq_true rfl) rfl rfl ?_
  exact J_ret (pc := 32) rfl rfl dX2_add_32 hQ
def kX2a6_29 (w9 : Nat → Int32) (h : AH) : AH := (hup (hup h 14 (.inl (0, 150, .inl (upd w9 (6 : Int32).toNatClampNeg 2001)))) 13 (.inr (2, [.ref 14, .ref 15, .int 6].set 2 (.int 7))))
set_option maxRecDepth 4000 in
theorem nX2a6_29 {g : Gp} {h : AH} {w9 : Nat → Int32} (a13 : h 13 = some (.inr (2, [.ref 14, .ref 15, .int 6]))) (a14 : h 14 = some (.inl (0, 150, .inl w9))) : NT g mX2_add 0 0 0 [.ref 13, .int 2001] h 32 (fun o h1 z1 => o = .inl none ∧ h1 = kX2a6_29 w9 h ∧ z1 = 32) := by
  refine NT_of_CT (fun _ _ _ q => by cases q.1) (CT_of_J ⟨rfl, rfl⟩ (Nat.le_of_ble_eq_true rfl) (J_forget (lsp_at 2 _) (jq (fun Q hQ => ?_))))
  refine J_aload_n (pc := 0) dX2_add_0 rfl ?_
  refine J_get (pc := 1) (fs := [.ref 14, .ref 15, .int 6]) (v := .int 6) dX2_add_1 kc2 fl_X2_18 (by first | rfl | assumption) rfl ?_
  refine J_aload_n (pc := 4) dX2_add_4 rfl ?_
  refine J_get (pc := 5) (fs := [.ref 14, .ref 15, .int 6]) (v := .ref 14) dX2_add_5 kc2 fl_X2_9 (by first | rfl | assumption) rfl ?_
  refine J_alen (pc := 8) (t := 0) (n := 150) (w := 150) (x := .inl w9) dX2_add_8 (by decide) (by first | rfl | assumption) rfl ?_
  refine J_icmp_ge (pc := 9) (tgt := 32) dX2_add_9 (by decide) (fun c9 => absurd c9 (by decide)) (fun _ => ?_)
  refine J_aload_n (pc := 12) dX2_add_12 rfl ?_
  refine J_get (pc := 13) (fs := [.ref 14, .ref 15, .int 6]) (v := .ref 14) dX2_add_13 kc2 fl_X2_9 (by first | rfl | assumption) rfl ?_
  refine J_aload_n (pc := 16) dX2_add_16 rfl ?_
  refine J_get (pc := 17) (fs := [.ref 14, .ref 15, .int 6]) (v := .int 6) dX2_add_17 kc2 fl_X2_18 (by first | rfl | assumption) rfl ?_
  refine J_iload_n (pc := 20) dX2_add_20 rfl ?_
  refine J_iast (pc := 21) (n := 150) (f := w9) dX2_add_21 (by first | rfl | assumption) (vp_in_nI (n := 6) (N := 150) (by decide) (by decide)) ?_
  refine J_aload_n (pc := 22) dX2_add_22 rfl ?_
  refine J_dup (pc := 23) dX2_add_23 rfl ?_
  refine J_get (pc := 24) (fs := [.ref 14, .ref 15, .int 6]) (v := .int 6) dX2_add_24 kc2 fl_X2_18 (by first | rfl | assumption) rfl ?_
  refine J_iconst (pc := 27) (v := 1) dX2_add_27 (by decide) ?_
  refine J_iadd (pc := 28) dX2_add_28 ?_
  refine J_t1 (y := 7) (by decide) ?_
  refine J_put (pc := 29) (fs := [.ref 14, .ref 15, .int 6]) (v := .int 7) dX2_add_29 kc2 fl_X2_18 rfl (by first | rfl | assumption) (Nat.le_of_ble_eq_true rfl) rfl rfl ?_
  exact J_ret (pc := 32) rfl rfl dX2_add_32 hQ
def kX2s_29 (n9 : Int32) (w9 : Nat → Int32) (h : AH) : AH := (kX2a6_29 (upd (upd (upd (upd (upd (upd w9 (0 : Int32).toNatClampNeg 1000) (1 : Int32).toNatClampNeg 1001) (2 : Int32).toNatClampNeg 2000) (3 : Int32).toNatClampNeg 1002) (4 : Int32).toNatClampNeg 2) (5 : Int32).toNatClampNeg 2002) (kX2a5_29 (upd (upd (upd (upd (upd w9 (0 : Int32).toNatClampNeg 1000) (1 : Int32).toNatClampNeg 1001) (2 : Int32).toNatClampNeg 2000) (3 : Int32).toNatClampNeg 1002) (4 : Int32).toNatClampNeg 2) (kX2a4_29 (upd (upd (upd (upd w9 (0 : Int32).toNatClampNeg 1000) (1 : Int32).toNatClampNeg 1001) (2 : Int32).toNatClampNeg 2000) (3 : Int32).toNatClampNeg 1002) (kX2a3_29 (upd (upd (upd w9 (0 : Int32).toNatClampNeg 1000) (1 : Int32).toNatClampNeg 1001) (2 : Int32).toNatClampNeg 2000) (kX2a2_29 (upd (upd w9 (0 : Int32).toNatClampNeg 1000) (1 : Int32).toNatClampNeg 1001) (kX2a1_29 (upd w9 (0 : Int32).toNatClampNeg 1000) (kX2a0_29 w9 (hup h 13 (.inr (2, [.ref 14, .ref 15, .int n9].set 2 (.int 0)))))))))))
set_option maxRecDepth 4000 in
theorem nX2s_29 {g : Gp} {h : AH} {n9 : Int32} {w9 : Nat → Int32} (a13 : h 13 = some (.inr (2, [.ref 14, .ref 15, .int n9]))) (a14 : h 14 = some (.inl (0, 150, .inl w9))) : NT g mX2_setPlain 1 0 0 [.ref 13] h 32 (fun o h1 z1 => o = .inl none ∧ h1 = kX2s_29 n9 w9 h ∧ z1 = 32) := by
  refine NT_of_CT (fun _ _ _ q => by cases q.1) (CT_of_J ⟨rfl, rfl⟩ (Nat.le_of_ble_eq_true rfl) (J_forget (lsp_at 1 _) (jq (fun Q hQ => ?_))))
  refine J_aload_n (pc := 0) dX2_setPlain_0 rfl ?_
  refine J_iconst (pc := 1) (v := 0) dX2_setPlain_1 (by decide) ?_
  refine J_put (pc := 2) (fs := [.ref 14, .ref 15, .int n9]) (v := .int 0) dX2_setPlain_2 kc2 fl_X2_18 rfl (by first | rfl | assumption) (Nat.le_of_ble_eq_true rfl) rfl rfl ?_
  refine J_aload_n (pc := 5) dX2_setPlain_5 rfl ?_
  refine J_sipush (pc := 6) (v := 1000) dX2_setPlain_6 (by decide) ?_
  refine J_cv (pc := 9) (N := mX2_add) dX2_setPlain_9 ml_X2_22 cf_X2_add cv_X2_add (nX2a0_29 (w9 := w9) (by first | rfl | assumption) (by first | rfl | assumption)) rfl rfl (Nat.le_of_ble_eq_true rfl) (by decide) (by decide) (by decide) (rw_of (ci := 2) (fs := [.ref 14, .ref 15, .int 0]) (by first | rfl | assumption) rfl rfl) (fun v9 h9 z9 q9 => ?_)
  obtain ⟨e9, rfl, rfl⟩ := q9
  cases e9
  refine J_aload_n (pc := 12) dX2_setPlain_12 rfl ?_
  refine J_sipush (pc := 13) (v := 1001) dX2_setPlain_13 (by decide) ?_
  refine J_cv (pc := 16) (N := mX2_add) dX2_setPlain_16 ml_X2_22 cf_X2_add cv_X2_add (nX2a1_29 (w9 := (upd w9 (0 : Int32).toNatClampNeg 1000)) (by first | rfl | assumption) (by first | rfl | assumption)) rfl rfl (Nat.le_of_ble_eq_true rfl) (by decide) (by decide) (by decide) (rw_of (ci := 2) (fs := [.ref 14, .ref 15, .int 1]) (by first | rfl | assumption) rfl rfl) (fun v9 h9 z9 q9 => ?_)
  obtain ⟨e9, rfl, rfl⟩ := q9
  cases e9
  refine J_aload_n (pc := 19) dX2_setPlain_19 rfl ?_
  refine J_sipush (pc := 20) (v := 2000) dX2_setPlain_20 (by decide) ?_
  refine J_cv (pc := 23) (N := mX2_add) dX2_setPlain_23 ml_X2_22 cf_X2_add cv_X2_add (nX2a2_29 (w9 := (upd (upd w9 (0 : Int32).toNatClampNeg 1000) (1 : Int32).toNatClampNeg 1001)) (by first | rfl | assumption) (by first | rfl | assumption)) rfl rfl (Nat.le_of_ble_eq_true rfl) (by decide) (by decide) (by decide) (rw_of (ci := 2) (fs := [.ref 14, .ref 15, .int 2]) (by first | rfl | assumption) rfl rfl) (fun v9 h9 z9 q9 => ?_)
  obtain ⟨e9, rfl, rfl⟩ := q9
  cases e9
  refine J_aload_n (pc := 26) dX2_setPlain_26 rfl ?_
  refine J_sipush (pc := 27) (v := 1002) dX2_setPlain_27 (by decide) ?_
  refine J_cv (pc := 30) (N := mX2_add) dX2_setPlain_30 ml_X2_22 cf_X2_add cv_X2_add (nX2a3_29 (w9 := (upd (upd (upd w9 (0 : Int32).toNatClampNeg 1000) (1 : Int32).toNatClampNeg 1001) (2 : Int32).toNatClampNeg 2000)) (by first | rfl | assumption) (by first | rfl | assumption)) rfl rfl (Nat.le_of_ble_eq_true rfl) (by decide) (by decide) (by decide) (rw_of (ci := 2) (fs := [.ref 14, .ref 15, .int 3]) (by first | rfl | assumption) rfl rfl) (fun v9 h9 z9 q9 => ?_)
  obtain ⟨e9, rfl, rfl⟩ := q9
  cases e9
  refine J_aload_n (pc := 33) dX2_setPlain_33 rfl ?_
  refine J_iconst (pc := 34) (v := 2) dX2_setPlain_34 (by decide) ?_
  refine J_cv (pc := 35) (N := mX2_add) dX2_setPlain_35 ml_X2_22 cf_X2_add cv_X2_add (nX2a4_29 (w9 := (upd (upd (upd (upd w9 (0 : Int32).toNatClampNeg 1000) (1 : Int32).toNatClampNeg 1001) (2 : Int32).toNatClampNeg 2000) (3 : Int32).toNatClampNeg 1002)) (by first | rfl | assumption) (by first | rfl | assumption)) rfl rfl (Nat.le_of_ble_eq_true rfl) (by decide) (by decide) (by decide) (rw_of (ci := 2) (fs := [.ref 14, .ref 15, .int 4]) (by first | rfl | assumption) rfl rfl) (fun v9 h9 z9 q9 => ?_)
  obtain ⟨e9, rfl, rfl⟩ := q9
  cases e9
  refine J_aload_n (pc := 38) dX2_setPlain_38 rfl ?_
  refine J_sipush (pc := 39) (v := 2002) dX2_setPlain_39 (by decide) ?_
  refine J_cv (pc := 42) (N := mX2_add) dX2_setPlain_42 ml_X2_22 cf_X2_add cv_X2_add (nX2a5_29 (w9 := (upd (upd (upd (upd (upd w9 (0 : Int32).toNatClampNeg 1000) (1 : Int32).toNatClampNeg 1001) (2 : Int32).toNatClampNeg 2000) (3 : Int32).toNatClampNeg 1002) (4 : Int32).toNatClampNeg 2)) (by first | rfl | assumption) (by first | rfl | assumption)) rfl rfl (Nat.le_of_ble_eq_true rfl) (by decide) (by decide) (by decide) (rw_of (ci := 2) (fs := [.ref 14, .ref 15, .int 5]) (by first | rfl | assumption) rfl rfl) (fun v9 h9 z9 q9 => ?_)
  obtain ⟨e9, rfl, rfl⟩ := q9
  cases e9
  refine J_aload_n (pc := 45) dX2_setPlain_45 rfl ?_
  refine J_sipush (pc := 46) (v := 2001) dX2_setPlain_46 (by decide) ?_
  refine J_cv (pc := 49) (N := mX2_add) dX2_setPlain_49 ml_X2_22 cf_X2_add cv_X2_add (nX2a6_29 (w9 := (upd (upd (upd (upd (upd (upd w9 (0 : Int32).toNatClampNeg 1000) (1 : Int32).toNatClampNeg 1001) (2 : Int32).toNatClampNeg 2000) (3 : Int32).toNatClampNeg 1002) (4 : Int32).toNatClampNeg 2) (5 : Int32).toNatClampNeg 2002)) (by first | rfl | assumption) (by first | rfl | assumption)) rfl rfl (Nat.le_of_ble_eq_true rfl) (by decide) (by decide) (by decide) (rw_of (ci := 2) (fs := [.ref 14, .ref 15, .int 6]) (by first | rfl | assumption) rfl rfl) (fun v9 h9 z9 q9 => ?_)
  obtain ⟨e9, rfl, rfl⟩ := q9
  cases e9
  exact J_ret (pc := 52) rfl rfl dX2_setPlain_52 hQ
def kX0b29 (n9 : Int32) (w9 : Nat → Int32) (h : AH) : AH := (kX2s_29 n9 w9 (hup (hup h 30 (.inl (0, 31, .inl (fillN (fun _ => 0) (fun i => if i < 23 then 0 else -1) 0 31)))) 30 (.inl (0, 31, .inl (upd (fillN (fun _ => 0) (fun i => if i < 23 then 0 else -1) 0 31) (1 : Int32).toNatClampNeg 0)))))
set_option maxRecDepth 4000 in
theorem nX0b29 {g : Gp} {h : AH} {n9 : Int32} {w9 : Nat → Int32} (a29 : h 29 = some (.inr (0, [.ref 30, .ref 31, .ref 4, .ref 13]))) (a30 : h 30 = some (.inl (0, 31, .inl (fun _ => 0)))) (a4 : h 4 = some (.inr (1, [.ref 5, .ref 6, .ref 7, .ref 8, .ref 9, .ref 10, .ref 11, .ref 12, .int 0, .int 0, .int 0]))) (a13 : h 13 = some (.inr (2, [.ref 14, .ref 15, .int n9]))) (a14 : h 14 = some (.inl (0, 150, .inl w9))) : NT g mX0_begin 2 0 0 [.ref 29] h 32 (fun o h1 z1 => o = .inl none ∧ h1 = kX0b29 n9 w9 h ∧ z1 = 32) := by
  refine NT_of_CT (fun _ _ _ q => by cases q.1) (CT_of_J ⟨rfl, rfl⟩ (Nat.le_of_ble_eq_true rfl) (J_forget (lsp_at 2 _) (jq (fun Q hQ => ?_))))
  refine J_iconst (pc := 0) (v := 0) dX0_begin_0 (by decide) ?_
  refine J_istore_n (pc := 1) dX0_begin_1 (by decide) rfl ?_
  refine J_hp (hup_id (a := 30) (x := .inl (0, 31, .inl (fun _ => 0))) (by first | rfl | assumption)).symm ?_
  have hloop : ∀ i, i ≤ 31 → J g mX0_begin 2 [] 2 [some (.ref 29), some (.int (ix i))] [] (hup h 30 (.inl (0, 31, .inl (fillN (fun _ => 0) (fun i => if i < 23 then 0 else -1) 0 i)))) 32 0 0 Q := by
    refine dn_ind ?_ (fun i hi ih => ?_)
    · refine J_iload_n (pc := 2) dX0_begin_2 rfl ?_
      refine J_bipush (pc := 3) (v := 31) dX0_begin_3 (by decide) ?_
      refine J_icmp_ge (pc := 5) (tgt := 31) dX0_begin_5 (by decide) (fun _ => ?_) (fun c9 => absurd (ix_ge (n := 31) rfl) c9)
      refine J_aload_n (pc := 31) dX0_begin_31 rfl ?_
      refine J_get (pc := 32) (fs := [.ref 30, .ref 31, .ref 4, .ref 13]) (v := .ref 30) dX0_begin_32 kc0 fl_X0_11 (by first | rfl | assumption) rfl ?_
      refine J_iconst (pc := 35) (v := 1) dX0_begin_35 (by decide) ?_
      refine J_iconst (pc := 36) (v := 1) dX0_begin_36 (by decide) ?_
      refine J_aload_n (pc := 37) dX0_begin_37 rfl ?_
      refine J_get (pc := 38) (fs := [.ref 30, .ref 31, .ref 4, .ref 13]) (v := .ref 4) dX0_begin_38 kc0 fl_X0_20 (by first | rfl | assumption) rfl ?_
      refine J_getN (pc := 41) (fs := [.ref 5, .ref 6, .ref 7, .ref 8, .ref 9, .ref 10, .ref 11, .ref 12, .int 0, .int 0, .int 0]) (v := .int 0) dX0_begin_41 kc1 fl_X0_31 (by first | rfl | assumption) rfl ?_
      refine J_ishl (pc := 44) dX0_begin_44 ?_
      refine J_t1 (y := 1) (by decide) ?_
      refine J_iconst (pc := 45) (v := 1) dX0_begin_45 (by decide) ?_
      refine J_isub (pc := 46) dX0_begin_46 ?_
      refine J_t1 (y := 0) (by decide) ?_
      refine J_iast (pc := 47) (n := 31) (f := (fillN (fun _ => 0) (fun i => if i < 23 then 0 else -1) 0 31)) dX0_begin_47 (by first | rfl | assumption) (vp_in_nI (n := 1) (N := 31) (by decide) (by decide)) ?_
      refine J_aload_n (pc := 48) dX0_begin_48 rfl ?_
      refine J_get (pc := 49) (fs := [.ref 30, .ref 31, .ref 4, .ref 13]) (v := .ref 13) dX0_begin_49 kc0 fl_X0_24 (by first | rfl | assumption) rfl ?_
      refine J_cvN (pc := 52) (N := mX2_setPlain) dX0_begin_52 ml_X0_37 cf_X2_setPlain cv_X2_setPlain (nX2s_29 (n9 := n9) (w9 := w9) (by first | rfl | assumption) (by first | rfl | assumption)) rfl rfl (Nat.le_of_ble_eq_true rfl) (by decide) (by decide) (by decide) (rw_of (ci := 2) (fs := [.ref 14, .ref 15, .int n9]) (by first | rfl | assumption) rfl rfl) (fun v9 h9 z9 q9 => ?_)
      obtain ⟨e9, rfl, rfl⟩ := q9
      cases e9
      exact J_ret (pc := 55) rfl rfl dX0_begin_55 hQ
    · refine J_iload_n (pc := 2) dX0_begin_2 rfl ?_
      refine J_bipush (pc := 3) (v := 31) dX0_begin_3 (by decide) ?_
      refine J_icmp_ge (pc := 5) (tgt := 31) dX0_begin_5 (by decide) (fun c9 => absurd c9 (ix_lt (n := 31) rfl hi (by decide))) (fun _ => ?_)
      refine J_aload_n (pc := 8) dX0_begin_8 rfl ?_
      refine J_get (pc := 9) (fs := [.ref 30, .ref 31, .ref 4, .ref 13]) (v := .ref 30) dX0_begin_9 kc0 fl_X0_11 (by first | rfl | assumption) rfl ?_
      refine J_iload_n (pc := 12) dX0_begin_12 rfl ?_
      refine J_iload_n (pc := 13) dX0_begin_13 rfl ?_
      refine J_bipush (pc := 14) (v := 23) dX0_begin_14 (by decide) ?_
      refine J_icmp_ge (pc := 16) (tgt := 23) dX0_begin_16 (by decide) (fun c16 => ?_) (fun c16 => ?_)
      · refine J_iconst (pc := 23) (v := -1) dX0_begin_23 (by decide) ?_
        refine J_t1 (y := (fun i : Nat => if i < 23 then (0 : Int32) else -1) i) (if_neg (Nat.not_lt.mpr ((v23 i hi).mp c16))).symm ?_
        refine J_isR (pc := 24) dX0_begin_24 (ix_nI i) ⟨hi, by decide⟩ ?_
        refine J_iinc (pc := 25) (v := 1) dX0_begin_25 rfl (by decide) rfl ?_
        refine J_goto (pc := 28) (tgt := 2) dX0_begin_28 (by decide) ?_
        exact ih
      · refine J_iconst (pc := 19) (v := 0) dX0_begin_19 (by decide) ?_
        refine J_goto (pc := 20) (tgt := 24) dX0_begin_20 (by decide) ?_
        refine J_t1 (y := (fun i : Nat => if i < 23 then (0 : Int32) else -1) i) (if_pos (Nat.not_le.mp (fun q => c16 ((v23 i hi).mpr q)))).symm ?_
        refine J_isR (pc := 24) dX0_begin_24 (ix_nI i) ⟨hi, by decide⟩ ?_
        refine J_iinc (pc := 25) (v := 1) dX0_begin_25 rfl (by decide) rfl ?_
        refine J_goto (pc := 28) (tgt := 2) dX0_begin_28 (by decide) ?_
        exact ih
  exact hloop 0 (Nat.zero_le _)
def kX0i29 (n9 : Int32) (w9 : Nat → Int32) (h : AH) : AH := (kX0b29 n9 w9 (hup (hup (hup (hup (hup (hup h 30 (.inl (0, 31, .inl (fun _ => 0)))) 29 (.inr (0, [.null, .null, .null, .null].set 0 (.ref 30)))) 31 (.inl (0, 8, .inl (fun _ => 0)))) 29 (.inr (0, [.ref 30, .null, .null, .null].set 1 (.ref 31)))) 29 (.inr (0, [.ref 30, .ref 31, .null, .null].set 2 (.ref 4)))) 29 (.inr (0, [.ref 30, .ref 31, .ref 4, .null].set 3 (.ref 13)))))
set_option maxRecDepth 4000 in
theorem nX0i29 {g : Gp} {h : AH} {n9 : Int32} {w9 : Nat → Int32} (a29 : h 29 = some (.inr (0, [.null, .null, .null, .null]))) (a4 : h 4 = some (.inr (1, [.ref 5, .ref 6, .ref 7, .ref 8, .ref 9, .ref 10, .ref 11, .ref 12, .int 0, .int 0, .int 0]))) (a13 : h 13 = some (.inr (2, [.ref 14, .ref 15, .int n9]))) (a14 : h 14 = some (.inl (0, 150, .inl w9))) : NT g mX0_init 3 2 39 [.ref 29, .ref 4, .ref 13] h 30 (fun o h1 z1 => o = .inl none ∧ h1 = kX0i29 n9 w9 h ∧ z1 = 32) := by
  refine NT_of_CT (fun _ _ _ q => by cases q.1) (CT_of_J ⟨rfl, rfl⟩ (Nat.le_of_ble_eq_true rfl) (J_forget (lsp_at 3 _) (jq (fun Q hQ => ?_))))
  refine J_aload_n (pc := 0) dX0_init_0 rfl ?_
  refine J_obj (pc := 1) dX0_init_1 ⟨List.mem_of_getElem? (i := 312) rfl, rfl⟩ oi_i oi_c (by decide) ?_
  refine J_aload_n (pc := 4) dX0_init_4 rfl ?_
  refine J_bipush (pc := 5) (v := 31) dX0_init_5 (by decide) ?_
  refine J_na (pc := 7) (t := 0) (n := 31) (z := .inl (fun _ => 0)) dX0_init_7 rfl (fun _ q => q) ac_i ⟨by decide, by decide⟩ (by decide) (fun _ => rfl) (by decide) (by decide) (by decide) ?_
  refine J_putF (pc := 9) (fs := [.null, .null, .null, .null]) (v := .ref 30) dX0_init_9 kc0 fl_X0_11 ⟨rfl, rfl, rfl⟩ (by first | rfl | assumption) (Nat.le_of_ble_eq_true rfl) rfl rfl ?_
  refine J_aload_n (pc := 12) dX0_init_12 rfl ?_
  refine J_bipush (pc := 13) (v := 8) dX0_init_13 (by decide) ?_
  refine J_na (pc := 15) (t := 0) (n := 8) (z := .inl (fun _ => 0)) dX0_init_15 rfl (fun _ q => q) ac_i ⟨by decide, by decide⟩ (by decide) (fun _ => rfl) (by decide) (by decide) (by decide) ?_
  refine J_putF (pc := 17) (fs := [.ref 30, .null, .null, .null]) (v := .ref 31) dX0_init_17 kc0 fl_X0_17 ⟨rfl, rfl, rfl⟩ (by first | rfl | assumption) (Nat.le_of_ble_eq_true rfl) rfl rfl ?_
  refine J_aload_n (pc := 20) dX0_init_20 rfl ?_
  refine J_aload_n (pc := 21) dX0_init_21 rfl ?_
  refine J_put (pc := 22) (fs := [.ref 30, .ref 31, .null, .null]) (v := .ref 4) dX0_init_22 kc0 fl_X0_20 rfl (by first | rfl | assumption) (Nat.le_of_ble_eq_true rfl) rfl rfl ?_
  refine J_aload_n (pc := 25) dX0_init_25 rfl ?_
  refine J_aload_n (pc := 26) dX0_init_26 rfl ?_
  refine J_put (pc := 27) (fs := [.ref 30, .ref 31, .ref 4, .null]) (v := .ref 13) dX0_init_27 kc0 fl_X0_24 rfl (by first | rfl | assumption) (Nat.le_of_ble_eq_true rfl) rfl rfl ?_
  refine J_aload_n (pc := 30) dX0_init_30 rfl ?_
  refine J_cv (pc := 31) (N := mX0_begin) dX0_init_31 ml_X0_28 cf_X0_begin cv_X0_begin (nX0b29 (n9 := n9) (w9 := w9) (by first | rfl | assumption) (by first | rfl | assumption) (by first | rfl | assumption) (by first | rfl | assumption) (by first | rfl | assumption)) rfl rfl (Nat.le_of_ble_eq_true rfl) (by decide) (by decide) (by decide) (rw_of (ci := 0) (fs := [.ref 30, .ref 31, .ref 4, .ref 13]) (by first | rfl | assumption) rfl rfl) (fun v9 h9 z9 q9 => ?_)
  obtain ⟨e9, rfl, rfl⟩ := q9
  cases e9
  exact J_ret (pc := 34) rfl rfl dX0_init_34 hQ
def kX4i  (h : AH) : AH := (hup (hup (hup (hup (hup (hup (hup (hup h 19 (.inl (0, 37, .inl (fun _ => 0)))) 18 (.inr (4, [.null, .null, .null, .null, .int 0, .int 0, .int 0, .int 0].set 0 (.ref 19)))) 20 (.inl (0, 37, .inl (fun _ => 0)))) 18 (.inr (4, [.ref 19, .null, .null, .null, .int 0, .int 0, .int 0, .int 0].set 1 (.ref 20)))) 21 (.inl (0, 37, .inl (fun _ => 0)))) 18 (.inr (4, [.ref 19, .ref 20, .null, .null, .int 0, .int 0, .int 0, .int 0].set 2 (.ref 21)))) 22 (.inl (0, 37, .inl (fun _ => 0)))) 18 (.inr (4, [.ref 19, .ref 20, .ref 21, .null, .int 0, .int 0, .int 0, .int 0].set 3 (.ref 22))))
set_option maxRecDepth 4000 in
theorem nX4i {g : Gp} {h : AH}  (a18 : h 18 = some (.inr (4, [.null, .null, .null, .null, .int 0, .int 0, .int 0, .int 0]))) : NT g mX4_init 0 4 148 [.ref 18] h 19 (fun o h1 z1 => o = .inl none ∧ h1 = kX4i h ∧ z1 = 23) := by
  refine NT_of_CT (fun _ _ _ q => by cases q.1) (CT_of_J ⟨rfl, rfl⟩ (Nat.le_of_ble_eq_true rfl) (J_forget (lsp_at 1 _) (jq (fun Q hQ => ?_))))
  refine J_aload_n (pc := 0) dX4_init_0 rfl ?_
  refine J_obj (pc := 1) dX4_init_1 ⟨List.mem_of_getElem? (i := 352) rfl, rfl⟩ oi_i oi_c (by decide) ?_
  refine J_aload_n (pc := 4) dX4_init_4 rfl ?_
  refine J_bipush (pc := 5) (v := 37) dX4_init_5 (by decide) ?_
  refine J_na (pc := 7) (t := 0) (n := 37) (z := .inl (fun _ => 0)) dX4_init_7 rfl (fun _ q => q) ac_i ⟨by decide, by decide⟩ (by decide) (fun _ => rfl) (by decide) (by decide) (by decide) ?_
  refine J_putF (pc := 9) (fs := [.null, .null, .null, .null, .int 0, .int 0, .int 0, .int 0]) (v := .ref 19) dX4_init_9 kc4 fl_X4_11 ⟨rfl, rfl, rfl⟩ (by first | rfl | assumption) (Nat.le_of_ble_eq_true rfl) rfl rfl ?_
  refine J_aload_n (pc := 12) dX4_init_12 rfl ?_
  refine J_bipush (pc := 13) (v := 37) dX4_init_13 (by decide) ?_
  refine J_na (pc := 15) (t := 0) (n := 37) (z := .inl (fun _ => 0)) dX4_init_15 rfl (fun _ q => q) ac_i ⟨by decide, by decide⟩ (by decide) (fun _ => rfl) (by decide) (by decide) (by decide) ?_
  refine J_putF (pc := 17) (fs := [.ref 19, .null, .null, .null, .int 0, .int 0, .int 0, .int 0]) (v := .ref 20) dX4_init_17 kc4 fl_X4_15 ⟨rfl, rfl, rfl⟩ (by first | rfl | assumption) (Nat.le_of_ble_eq_true rfl) rfl rfl ?_
  refine J_aload_n (pc := 20) dX4_init_20 rfl ?_
  refine J_bipush (pc := 21) (v := 37) dX4_init_21 (by decide) ?_
  refine J_na (pc := 23) (t := 0) (n := 37) (z := .inl (fun _ => 0)) dX4_init_23 rfl (fun _ q => q) ac_i ⟨by decide, by decide⟩ (by decide) (fun _ => rfl) (by decide) (by decide) (by decide) ?_
  refine J_putF (pc := 25) (fs := [.ref 19, .ref 20, .null, .null, .int 0, .int 0, .int 0, .int 0]) (v := .ref 21) dX4_init_25 kc4 fl_X4_18 ⟨rfl, rfl, rfl⟩ (by first | rfl | assumption) (Nat.le_of_ble_eq_true rfl) rfl rfl ?_
  refine J_aload_n (pc := 28) dX4_init_28 rfl ?_
  refine J_bipush (pc := 29) (v := 37) dX4_init_29 (by decide) ?_
  refine J_na (pc := 31) (t := 0) (n := 37) (z := .inl (fun _ => 0)) dX4_init_31 rfl (fun _ q => q) ac_i ⟨by decide, by decide⟩ (by decide) (fun _ => rfl) (by decide) (by decide) (by decide) ?_
  refine J_putF (pc := 33) (fs := [.ref 19, .ref 20, .ref 21, .null, .int 0, .int 0, .int 0, .int 0]) (v := .ref 22) dX4_init_33 kc4 fl_X4_21 ⟨rfl, rfl, rfl⟩ (by first | rfl | assumption) (Nat.le_of_ble_eq_true rfl) rfl rfl ?_
  exact J_ret (pc := 36) rfl rfl dX4_init_36 hQ
def kX7i  (h : AH) : AH := h
set_option maxRecDepth 4000 in
theorem nX7i {g : Gp} {h : AH}   : NT g mX7_init 0 0 0 [.ref 23] h 24 (fun o h1 z1 => o = .inl none ∧ h1 = kX7i h ∧ z1 = 24) := by
  refine NT_of_CT (fun _ _ _ q => by cases q.1) (CT_of_J ⟨rfl, rfl⟩ (Nat.le_of_ble_eq_true rfl) (J_forget (lsp_at 1 _) (jq (fun Q hQ => ?_))))
  refine J_aload_n (pc := 0) dX7_init_0 rfl ?_
  refine J_obj (pc := 1) dX7_init_1 ⟨List.mem_of_getElem? (i := 386) rfl, rfl⟩ oi_i oi_c (by decide) ?_
  exact J_ret (pc := 4) rfl rfl dX7_init_4 hQ
def kX3i  (h : AH) : AH := (hup (hup (hup (hup (hup (hup h 25 (.inl (0, 8, .inl (fun _ => 0)))) 24 (.inr (3, [.null, .null, .null, .int 0].set 0 (.ref 25)))) 26 (.inl (0, 8, .inl (fun _ => 0)))) 24 (.inr (3, [.ref 25, .null, .null, .int 0].set 1 (.ref 26)))) 27 (.inl (0, 10, .inl (fun _ => 0)))) 24 (.inr (3, [.ref 25, .ref 26, .null, .int 0].set 2 (.ref 27))))
set_option maxRecDepth 4000 in
theorem nX3i {g : Gp} {h : AH}  (a24 : h 24 = some (.inr (3, [.null, .null, .null, .int 0]))) : NT g mX3_init 0 3 26 [.ref 24] h 25 (fun o h1 z1 => o = .inl none ∧ h1 = kX3i h ∧ z1 = 28) := by
  refine NT_of_CT (fun _ _ _ q => by cases q.1) (CT_of_J ⟨rfl, rfl⟩ (Nat.le_of_ble_eq_true rfl) (J_forget (lsp_at 1 _) (jq (fun Q hQ => ?_))))
  refine J_aload_n (pc := 0) dX3_init_0 rfl ?_
  refine J_obj (pc := 1) dX3_init_1 ⟨List.mem_of_getElem? (i := 402) rfl, rfl⟩ oi_i oi_c (by decide) ?_
  refine J_aload_n (pc := 4) dX3_init_4 rfl ?_
  refine J_bipush (pc := 5) (v := 8) dX3_init_5 (by decide) ?_
  refine J_na (pc := 7) (t := 0) (n := 8) (z := .inl (fun _ => 0)) dX3_init_7 rfl (fun _ q => q) ac_i ⟨by decide, by decide⟩ (by decide) (fun _ => rfl) (by decide) (by decide) (by decide) ?_
  refine J_putF (pc := 9) (fs := [.null, .null, .null, .int 0]) (v := .ref 25) dX3_init_9 kc3 fl_X3_9 ⟨rfl, rfl, rfl⟩ (by first | rfl | assumption) (Nat.le_of_ble_eq_true rfl) rfl rfl ?_
  refine J_aload_n (pc := 12) dX3_init_12 rfl ?_
  refine J_bipush (pc := 13) (v := 8) dX3_init_13 (by decide) ?_
  refine J_na (pc := 15) (t := 0) (n := 8) (z := .inl (fun _ => 0)) dX3_init_15 rfl (fun _ q => q) ac_i ⟨by decide, by decide⟩ (by decide) (fun _ => rfl) (by decide) (by decide) (by decide) ?_
  refine J_putF (pc := 17) (fs := [.ref 25, .null, .null, .int 0]) (v := .ref 26) dX3_init_17 kc3 fl_X3_15 ⟨rfl, rfl, rfl⟩ (by first | rfl | assumption) (Nat.le_of_ble_eq_true rfl) rfl rfl ?_
  refine J_aload_n (pc := 20) dX3_init_20 rfl ?_
  refine J_bipush (pc := 21) (v := 10) dX3_init_21 (by decide) ?_
  refine J_na (pc := 23) (t := 0) (n := 10) (z := .inl (fun _ => 0)) dX3_init_23 rfl (fun _ q => q) ac_i ⟨by decide, by decide⟩ (by decide) (fun _ => rfl) (by decide) (by decide) (by decide) ?_
  refine J_putF (pc := 25) (fs := [.ref 25, .ref 26, .null, .int 0]) (v := .ref 27) dX3_init_25 kc3 fl_X3_18 ⟨rfl, rfl, rfl⟩ (by first | rfl | assumption) (Nat.le_of_ble_eq_true rfl) rfl rfl ?_
  exact J_ret (pc := 28) rfl rfl dX3_init_28 hQ
def kX9i (n9 : Int32) (w9 : Nat → Int32) (h : AH) : AH := (hup (kX0i29 n9 w9 (hup h 29 (.inr (0, [.null, .null, .null, .null])))) 28 (.inr (9, [.null, .int 0, .int 0, .int 0].set 0 (.ref 29))))
set_option maxRecDepth 4000 in
theorem nX9i {g : Gp} {h : AH} {n9 : Int32} {w9 : Nat → Int32} (a28 : h 28 = some (.inr (9, [.null, .int 0, .int 0, .int 0]))) (a4 : h 4 = some (.inr (1, [.ref 5, .ref 6, .ref 7, .ref 8, .ref 9, .ref 10, .ref 11, .ref 12, .int 0, .int 0, .int 0]))) (a13 : h 13 = some (.inr (2, [.ref 14, .ref 15, .int n9]))) (a14 : h 14 = some (.inl (0, 150, .inl w9))) : NT g mX9_init 4 3 43 [.ref 28, .ref 4, .ref 13] h 29 (fun o h1 z1 => o = .inl none ∧ h1 = kX9i n9 w9 h ∧ z1 = 32) := by
  refine NT_of_CT (fun _ _ _ q => by cases q.1) (CT_of_J ⟨rfl, rfl⟩ (Nat.le_of_ble_eq_true rfl) (J_forget (lsp_at 3 _) (jq (fun Q hQ => ?_))))
  refine J_aload_n (pc := 0) dX9_init_0 rfl ?_
  refine J_obj (pc := 1) dX9_init_1 ⟨List.mem_of_getElem? (i := 422) rfl, rfl⟩ oi_i oi_c (by decide) ?_
  refine J_aload_n (pc := 4) dX9_init_4 rfl ?_
  refine J_new (pc := 5) dX9_init_5 kc0 ⟨List.mem_of_getElem? (i := 423) rfl, rfl⟩ ⟨List.mem_of_getElem? (i := 218) rfl, rfl⟩ ⟨List.mem_of_getElem? (i := 149) rfl, rfl⟩ [.null, .null, .null, .null] (fun _ => rfl) (by decide) (by decide) (by decide) (by decide) ?_
  refine J_dup (pc := 8) dX9_init_8 rfl ?_
  refine J_aload_n (pc := 9) dX9_init_9 rfl ?_
  refine J_aload_n (pc := 10) dX9_init_10 rfl ?_
  refine J_ciN (pc := 11) (N := mX0_init) dX9_init_11 ml_X9_11 cf_X0_init cv_X0_init (nX0i29 (n9 := n9) (w9 := w9) (by first | rfl | assumption) (by first | rfl | assumption) (by first | rfl | assumption) (by first | rfl | assumption)) rfl rfl (Nat.le_of_ble_eq_true rfl) (by decide) (by decide) (by decide) (fun v9 h9 z9 q9 => ?_)
  obtain ⟨e9, rfl, rfl⟩ := q9
  cases e9
  refine J_putF (pc := 14) (fs := [.null, .int 0, .int 0, .int 0]) (v := .ref 29) dX9_init_14 kc9 fl_X9_14 ⟨rfl, rfl, rfl⟩ (by first | rfl | assumption) (Nat.le_of_ble_eq_true rfl) rfl rfl ?_
  exact J_ret (pc := 17) rfl rfl dX9_init_17 hQ
def kX5i32  (h : AH) : AH := (hup (hup (hup (hup h 32 (.inr (5, [.int 0, .int 0, .null, .int 0].set 0 (.int 16)))) 32 (.inr (5, [.int 16, .int 0, .null, .int 0].set 1 (.int 31)))) 33 (.inl (0, 496, .inl (fun _ => 0)))) 32 (.inr (5, [.int 16, .int 31, .null, .int 0].set 2 (.ref 33))))
set_option maxRecDepth 4000 in
theorem nX5i32 {g : Gp} {h : AH}  (a32 : h 32 = some (.inr (5, [.int 0, .int 0, .null, .int 0]))) : NT g mX5_init 0 1 496 [.ref 32, .int 16, .int 31] h 33 (fun o h1 z1 => o = .inl none ∧ h1 = kX5i32 h ∧ z1 = 34) := by
  refine NT_of_CT (fun _ _ _ q => by cases q.1) (CT_of_J ⟨rfl, rfl⟩ (Nat.le_of_ble_eq_true rfl) (J_forget (lsp_at 3 _) (jq (fun Q hQ => ?_))))
  refine J_aload_n (pc := 0) dX5_init_0 rfl ?_
  refine J_obj (pc := 1) dX5_init_1 ⟨List.mem_of_getElem? (i := 446) rfl, rfl⟩ oi_i oi_c (by decide) ?_
  refine J_aload_n (pc := 4) dX5_init_4 rfl ?_
  refine J_iload_n (pc := 5) dX5_init_5 rfl ?_
  refine J_putF (pc := 6) (fs := [.int 0, .int 0, .null, .int 0]) (v := .int 16) dX5_init_6 kc5 fl_X5_7 ⟨rfl, rfl, rfl⟩ (by first | rfl | assumption) (Nat.le_of_ble_eq_true rfl) rfl rfl ?_
  refine J_aload_n (pc := 9) dX5_init_9 rfl ?_
  refine J_iload_n (pc := 10) dX5_init_10 rfl ?_
  refine J_putF (pc := 11) (fs := [.int 16, .int 0, .null, .int 0]) (v := .int 31) dX5_init_11 kc5 fl_X5_13 ⟨rfl, rfl, rfl⟩ (by first | rfl | assumption) (Nat.le_of_ble_eq_true rfl) rfl rfl ?_
  refine J_aload_n (pc := 14) dX5_init_14 rfl ?_
  refine J_iload_n (pc := 15) dX5_init_15 rfl ?_
  refine J_iload_n (pc := 16) dX5_init_16 rfl ?_
  refine J_imul (pc := 17) dX5_init_17 ?_
  refine J_t1 (y := 496) (by decide) ?_
  refine J_na (pc := 18) (t := 0) (n := 496) (z := .inl (fun _ => 0)) dX5_init_18 rfl (fun _ q => q) ac_i ⟨by decide, by decide⟩ (by decide) (fun _ => rfl) (by decide) (by decide) (by decide) ?_
  refine J_putF (pc := 20) (fs := [.int 16, .int 31, .null, .int 0]) (v := .ref 33) dX5_init_20 kc5 fl_X5_16 ⟨rfl, rfl, rfl⟩ (by first | rfl | assumption) (Nat.le_of_ble_eq_true rfl) rfl rfl ?_
  exact J_ret (pc := 23) rfl rfl dX5_init_23 hQ
def kX5i34  (h : AH) : AH := (hup (hup (hup (hup h 34 (.inr (5, [.int 0, .int 0, .null, .int 0].set 0 (.int 3)))) 34 (.inr (5, [.int 3, .int 0, .null, .int 0].set 1 (.int 31)))) 35 (.inl (0, 93, .inl (fun _ => 0)))) 34 (.inr (5, [.int 3, .int 31, .null, .int 0].set 2 (.ref 35))))
set_option maxRecDepth 4000 in
theorem nX5i34 {g : Gp} {h : AH}  (a34 : h 34 = some (.inr (5, [.int 0, .int 0, .null, .int 0]))) : NT g mX5_init 0 1 93 [.ref 34, .int 3, .int 31] h 35 (fun o h1 z1 => o = .inl none ∧ h1 = kX5i34 h ∧ z1 = 36) := by
  refine NT_of_CT (fun _ _ _ q => by cases q.1) (CT_of_J ⟨rfl, rfl⟩ (Nat.le_of_ble_eq_true rfl) (J_forget (lsp_at 3 _) (jq (fun Q hQ => ?_))))
  refine J_aload_n (pc := 0) dX5_init_0 rfl ?_
  refine J_obj (pc := 1) dX5_init_1 ⟨List.mem_of_getElem? (i := 446) rfl, rfl⟩ oi_i oi_c (by decide) ?_
  refine J_aload_n (pc := 4) dX5_init_4 rfl ?_
  refine J_iload_n (pc := 5) dX5_init_5 rfl ?_
  refine J_putF (pc := 6) (fs := [.int 0, .int 0, .null, .int 0]) (v := .int 3) dX5_init_6 kc5 fl_X5_7 ⟨rfl, rfl, rfl⟩ (by first | rfl | assumption) (Nat.le_of_ble_eq_true rfl) rfl rfl ?_
  refine J_aload_n (pc := 9) dX5_init_9 rfl ?_
  refine J_iload_n (pc := 10) dX5_init_10 rfl ?_
  refine J_putF (pc := 11) (fs := [.int 3, .int 0, .null, .int 0]) (v := .int 31) dX5_init_11 kc5 fl_X5_13 ⟨rfl, rfl, rfl⟩ (by first | rfl | assumption) (Nat.le_of_ble_eq_true rfl) rfl rfl ?_
  refine J_aload_n (pc := 14) dX5_init_14 rfl ?_
  refine J_iload_n (pc := 15) dX5_init_15 rfl ?_
  refine J_iload_n (pc := 16) dX5_init_16 rfl ?_
  refine J_imul (pc := 17) dX5_init_17 ?_
  refine J_t1 (y := 93) (by decide) ?_
  refine J_na (pc := 18) (t := 0) (n := 93) (z := .inl (fun _ => 0)) dX5_init_18 rfl (fun _ q => q) ac_i ⟨by decide, by decide⟩ (by decide) (fun _ => rfl) (by decide) (by decide) (by decide) ?_
  refine J_putF (pc := 20) (fs := [.int 3, .int 31, .null, .int 0]) (v := .ref 35) dX5_init_20 kc5 fl_X5_16 ⟨rfl, rfl, rfl⟩ (by first | rfl | assumption) (Nat.le_of_ble_eq_true rfl) rfl rfl ?_
  exact J_ret (pc := 23) rfl rfl dX5_init_23 hQ
def kX5i53  (h : AH) : AH := (hup (hup (hup (hup h 53 (.inr (5, [.int 0, .int 0, .null, .int 0].set 0 (.int 16)))) 53 (.inr (5, [.int 16, .int 0, .null, .int 0].set 1 (.int 31)))) 54 (.inl (0, 496, .inl (fun _ => 0)))) 53 (.inr (5, [.int 16, .int 31, .null, .int 0].set 2 (.ref 54))))
set_option maxRecDepth 4000 in
theorem nX5i53 {g : Gp} {h : AH}  (a53 : h 53 = some (.inr (5, [.int 0, .int 0, .null, .int 0]))) : NT g mX5_init 0 1 496 [.ref 53, .int 16, .int 31] h 54 (fun o h1 z1 => o = .inl none ∧ h1 = kX5i53 h ∧ z1 = 55) := by
  refine NT_of_CT (fun _ _ _ q => by cases q.1) (CT_of_J ⟨rfl, rfl⟩ (Nat.le_of_ble_eq_true rfl) (J_forget (lsp_at 3 _) (jq (fun Q hQ => ?_))))
  refine J_aload_n (pc := 0) dX5_init_0 rfl ?_
  refine J_obj (pc := 1) dX5_init_1 ⟨List.mem_of_getElem? (i := 446) rfl, rfl⟩ oi_i oi_c (by decide) ?_
  refine J_aload_n (pc := 4) dX5_init_4 rfl ?_
  refine J_iload_n (pc := 5) dX5_init_5 rfl ?_
  refine J_putF (pc := 6) (fs := [.int 0, .int 0, .null, .int 0]) (v := .int 16) dX5_init_6 kc5 fl_X5_7 ⟨rfl, rfl, rfl⟩ (by first | rfl | assumption) (Nat.le_of_ble_eq_true rfl) rfl rfl ?_
  refine J_aload_n (pc := 9) dX5_init_9 rfl ?_
  refine J_iload_n (pc := 10) dX5_init_10 rfl ?_
  refine J_putF (pc := 11) (fs := [.int 16, .int 0, .null, .int 0]) (v := .int 31) dX5_init_11 kc5 fl_X5_13 ⟨rfl, rfl, rfl⟩ (by first | rfl | assumption) (Nat.le_of_ble_eq_true rfl) rfl rfl ?_
  refine J_aload_n (pc := 14) dX5_init_14 rfl ?_
  refine J_iload_n (pc := 15) dX5_init_15 rfl ?_
  refine J_iload_n (pc := 16) dX5_init_16 rfl ?_
  refine J_imul (pc := 17) dX5_init_17 ?_
  refine J_t1 (y := 496) (by decide) ?_
  refine J_na (pc := 18) (t := 0) (n := 496) (z := .inl (fun _ => 0)) dX5_init_18 rfl (fun _ q => q) ac_i ⟨by decide, by decide⟩ (by decide) (fun _ => rfl) (by decide) (by decide) (by decide) ?_
  refine J_putF (pc := 20) (fs := [.int 16, .int 31, .null, .int 0]) (v := .ref 54) dX5_init_20 kc5 fl_X5_16 ⟨rfl, rfl, rfl⟩ (by first | rfl | assumption) (Nat.le_of_ble_eq_true rfl) rfl rfl ?_
  exact J_ret (pc := 23) rfl rfl dX5_init_23 hQ
def kX5i55  (h : AH) : AH := (hup (hup (hup (hup h 55 (.inr (5, [.int 0, .int 0, .null, .int 0].set 0 (.int 16)))) 55 (.inr (5, [.int 16, .int 0, .null, .int 0].set 1 (.int 31)))) 56 (.inl (0, 496, .inl (fun _ => 0)))) 55 (.inr (5, [.int 16, .int 31, .null, .int 0].set 2 (.ref 56))))
set_option maxRecDepth 4000 in
theorem nX5i55 {g : Gp} {h : AH}  (a55 : h 55 = some (.inr (5, [.int 0, .int 0, .null, .int 0]))) : NT g mX5_init 0 1 496 [.ref 55, .int 16, .int 31] h 56 (fun o h1 z1 => o = .inl none ∧ h1 = kX5i55 h ∧ z1 = 57) := by
  refine NT_of_CT (fun _ _ _ q => by cases q.1) (CT_of_J ⟨rfl, rfl⟩ (Nat.le_of_ble_eq_true rfl) (J_forget (lsp_at 3 _) (jq (fun Q hQ => ?_))))
  refine J_aload_n (pc := 0) dX5_init_0 rfl ?_
  refine J_obj (pc := 1) dX5_init_1 ⟨List.mem_of_getElem? (i := 446) rfl, rfl⟩ oi_i oi_c (by decide) ?_
  refine J_aload_n (pc := 4) dX5_init_4 rfl ?_
  refine J_iload_n (pc := 5) dX5_init_5 rfl ?_
  refine J_putF (pc := 6) (fs := [.int 0, .int 0, .null, .int 0]) (v := .int 16) dX5_init_6 kc5 fl_X5_7 ⟨rfl, rfl, rfl⟩ (by first | rfl | assumption) (Nat.le_of_ble_eq_true rfl) rfl rfl ?_
  refine J_aload_n (pc := 9) dX5_init_9 rfl ?_
  refine J_iload_n (pc := 10) dX5_init_10 rfl ?_
  refine J_putF (pc := 11) (fs := [.int 16, .int 0, .null, .int 0]) (v := .int 31) dX5_init_11 kc5 fl_X5_13 ⟨rfl, rfl, rfl⟩ (by first | rfl | assumption) (Nat.le_of_ble_eq_true rfl) rfl rfl ?_
  refine J_aload_n (pc := 14) dX5_init_14 rfl ?_
  refine J_iload_n (pc := 15) dX5_init_15 rfl ?_
  refine J_iload_n (pc := 16) dX5_init_16 rfl ?_
  refine J_imul (pc := 17) dX5_init_17 ?_
  refine J_t1 (y := 496) (by decide) ?_
  refine J_na (pc := 18) (t := 0) (n := 496) (z := .inl (fun _ => 0)) dX5_init_18 rfl (fun _ q => q) ac_i ⟨by decide, by decide⟩ (by decide) (fun _ => rfl) (by decide) (by decide) (by decide) ?_
  refine J_putF (pc := 20) (fs := [.int 16, .int 31, .null, .int 0]) (v := .ref 56) dX5_init_20 kc5 fl_X5_16 ⟨rfl, rfl, rfl⟩ (by first | rfl | assumption) (Nat.le_of_ble_eq_true rfl) rfl rfl ?_
  exact J_ret (pc := 23) rfl rfl dX5_init_23 hQ
def kX5i57  (h : AH) : AH := (hup (hup (hup (hup h 57 (.inr (5, [.int 0, .int 0, .null, .int 0].set 0 (.int 16)))) 57 (.inr (5, [.int 16, .int 0, .null, .int 0].set 1 (.int 31)))) 58 (.inl (0, 496, .inl (fun _ => 0)))) 57 (.inr (5, [.int 16, .int 31, .null, .int 0].set 2 (.ref 58))))
set_option maxRecDepth 4000 in
theorem nX5i57 {g : Gp} {h : AH}  (a57 : h 57 = some (.inr (5, [.int 0, .int 0, .null, .int 0]))) : NT g mX5_init 0 1 496 [.ref 57, .int 16, .int 31] h 58 (fun o h1 z1 => o = .inl none ∧ h1 = kX5i57 h ∧ z1 = 59) := by
  refine NT_of_CT (fun _ _ _ q => by cases q.1) (CT_of_J ⟨rfl, rfl⟩ (Nat.le_of_ble_eq_true rfl) (J_forget (lsp_at 3 _) (jq (fun Q hQ => ?_))))
  refine J_aload_n (pc := 0) dX5_init_0 rfl ?_
  refine J_obj (pc := 1) dX5_init_1 ⟨List.mem_of_getElem? (i := 446) rfl, rfl⟩ oi_i oi_c (by decide) ?_
  refine J_aload_n (pc := 4) dX5_init_4 rfl ?_
  refine J_iload_n (pc := 5) dX5_init_5 rfl ?_
  refine J_putF (pc := 6) (fs := [.int 0, .int 0, .null, .int 0]) (v := .int 16) dX5_init_6 kc5 fl_X5_7 ⟨rfl, rfl, rfl⟩ (by first | rfl | assumption) (Nat.le_of_ble_eq_true rfl) rfl rfl ?_
  refine J_aload_n (pc := 9) dX5_init_9 rfl ?_
  refine J_iload_n (pc := 10) dX5_init_10 rfl ?_
  refine J_putF (pc := 11) (fs := [.int 16, .int 0, .null, .int 0]) (v := .int 31) dX5_init_11 kc5 fl_X5_13 ⟨rfl, rfl, rfl⟩ (by first | rfl | assumption) (Nat.le_of_ble_eq_true rfl) rfl rfl ?_
  refine J_aload_n (pc := 14) dX5_init_14 rfl ?_
  refine J_iload_n (pc := 15) dX5_init_15 rfl ?_
  refine J_iload_n (pc := 16) dX5_init_16 rfl ?_
  refine J_imul (pc := 17) dX5_init_17 ?_
  refine J_t1 (y := 496) (by decide) ?_
  refine J_na (pc := 18) (t := 0) (n := 496) (z := .inl (fun _ => 0)) dX5_init_18 rfl (fun _ q => q) ac_i ⟨by decide, by decide⟩ (by decide) (fun _ => rfl) (by decide) (by decide) (by decide) ?_
  refine J_putF (pc := 20) (fs := [.int 16, .int 31, .null, .int 0]) (v := .ref 58) dX5_init_20 kc5 fl_X5_16 ⟨rfl, rfl, rfl⟩ (by first | rfl | assumption) (Nat.le_of_ble_eq_true rfl) rfl rfl ?_
  exact J_ret (pc := 23) rfl rfl dX5_init_23 hQ
def kX6c37  (h : AH) : AH := (hup (hup h 37 (.inr (6, [.ref 38, .int 0].set 1 (.int 0)))) 38 (.inl (0, 10, .inl (fillN (fun _ => 0) (fun _ => -1) 0 10))))
set_option maxRecDepth 4000 in
theorem nX6c37 {g : Gp} {h : AH}  (a37 : h 37 = some (.inr (6, [.ref 38, .int 0]))) (a38 : h 38 = some (.inl (0, 10, .inl (fun _ => 0)))) : NT g mX6_clear 0 0 0 [.ref 37] h 39 (fun o h1 z1 => o = .inl none ∧ h1 = kX6c37 h ∧ z1 = 39) := by
  refine NT_of_CT (fun _ _ _ q => by cases q.1) (CT_of_J ⟨rfl, rfl⟩ (Nat.le_of_ble_eq_true rfl) (J_forget (lsp_at 2 _) (jq (fun Q hQ => ?_))))
  refine J_aload_n (pc := 0) dX6_clear_0 rfl ?_
  refine J_iconst (pc := 1) (v := 0) dX6_clear_1 (by decide) ?_
  refine J_put (pc := 2) (fs := [.ref 38, .int 0]) (v := .int 0) dX6_clear_2 kc6 fl_X6_18 rfl (by first | rfl | assumption) (Nat.le_of_ble_eq_true rfl) rfl rfl ?_
  refine J_iconst (pc := 5) (v := 0) dX6_clear_5 (by decide) ?_
  refine J_istore_n (pc := 6) dX6_clear_6 (by decide) rfl ?_
  refine J_hp (hup_id (a := 38) (x := .inl (0, 10, .inl (fun _ => 0))) (by first | rfl | assumption)).symm ?_
  have hloop : ∀ i, i ≤ 10 → J g mX6_clear 0 [] 7 [some (.ref 37), some (.int (ix i))] [] (hup (hup h 37 (.inr (6, [.ref 38, .int 0].set 1 (.int 0)))) 38 (.inl (0, 10, .inl (fillN (fun _ => 0) (fun _ => -1) 0 i)))) 39 0 0 Q := by
    refine dn_ind ?_ (fun i hi ih => ?_)
    · refine J_iload_n (pc := 7) dX6_clear_7 rfl ?_
      refine J_aload_n (pc := 8) dX6_clear_8 rfl ?_
      refine J_get (pc := 9) (fs := [.ref 38, .int 0]) (v := .ref 38) dX6_clear_9 kc6 fl_X6_9 (by first | rfl | assumption) rfl ?_
      refine J_alen (pc := 12) (t := 0) (n := 10) (w := 10) (x := .inl (fillN (fun _ => 0) (fun _ => -1) 0 10)) dX6_clear_12 (by decide) hup_s rfl ?_
      refine J_icmp_ge (pc := 13) (tgt := 29) dX6_clear_13 (by decide) (fun _ => ?_) (fun c9 => absurd (ix_ge (n := 10) rfl) c9)
      exact J_ret (pc := 29) rfl rfl dX6_clear_29 hQ
    · refine J_iload_n (pc := 7) dX6_clear_7 rfl ?_
      refine J_aload_n (pc := 8) dX6_clear_8 rfl ?_
      refine J_get (pc := 9) (fs := [.ref 38, .int 0]) (v := .ref 38) dX6_clear_9 kc6 fl_X6_9 (by first | rfl | assumption) rfl ?_
      refine J_alen (pc := 12) (t := 0) (n := 10) (w := 10) (x := .inl (fillN (fun _ => 0) (fun _ => -1) 0 i)) dX6_clear_12 (by decide) hup_s rfl ?_
      refine J_icmp_ge (pc := 13) (tgt := 29) dX6_clear_13 (by decide) (fun c9 => absurd c9 (ix_lt (n := 10) rfl hi (by decide))) (fun _ => ?_)
      refine J_aload_n (pc := 16) dX6_clear_16 rfl ?_
      refine J_get (pc := 17) (fs := [.ref 38, .int 0]) (v := .ref 38) dX6_clear_17 kc6 fl_X6_9 (by first | rfl | assumption) rfl ?_
      refine J_iload_n (pc := 20) dX6_clear_20 rfl ?_
      refine J_iconst (pc := 21) (v := -1) dX6_clear_21 (by decide) ?_
      refine J_isR (pc := 22) dX6_clear_22 (ix_nI i) ⟨hi, by decide⟩ ?_
      refine J_iinc (pc := 23) (v := 1) dX6_clear_23 rfl (by decide) rfl ?_
      refine J_goto (pc := 26) (tgt := 7) dX6_clear_26 (by decide) ?_
      exact ih
  exact hloop 0 (Nat.zero_le _)
def kX6i37  (h : AH) : AH := (kX6c37 (hup (hup h 38 (.inl (0, 10, .inl (fun _ => 0)))) 37 (.inr (6, [.null, .int 0].set 0 (.ref 38)))))
set_option maxRecDepth 4000 in
theorem nX6i37 {g : Gp} {h : AH}  (a37 : h 37 = some (.inr (6, [.null, .int 0]))) : NT g mX6_init 1 1 10 [.ref 37] h 38 (fun o h1 z1 => o = .inl none ∧ h1 = kX6i37 h ∧ z1 = 39) := by
  refine NT_of_CT (fun _ _ _ q => by cases q.1) (CT_of_J ⟨rfl, rfl⟩ (Nat.le_of_ble_eq_true rfl) (J_forget (lsp_at 1 _) (jq (fun Q hQ => ?_))))
  refine J_aload_n (pc := 0) dX6_init_0 rfl ?_
  refine J_obj (pc := 1) dX6_init_1 ⟨List.mem_of_getElem? (i := 467) rfl, rfl⟩ oi_i oi_c (by decide) ?_
  refine J_aload_n (pc := 4) dX6_init_4 rfl ?_
  refine J_bipush (pc := 5) (v := 10) dX6_init_5 (by decide) ?_
  refine J_na (pc := 7) (t := 0) (n := 10) (z := .inl (fun _ => 0)) dX6_init_7 rfl (fun _ q => q) ac_i ⟨by decide, by decide⟩ (by decide) (fun _ => rfl) (by decide) (by decide) (by decide) ?_
  refine J_putF (pc := 9) (fs := [.null, .int 0]) (v := .ref 38) dX6_init_9 kc6 fl_X6_9 ⟨rfl, rfl, rfl⟩ (by first | rfl | assumption) (Nat.le_of_ble_eq_true rfl) rfl rfl ?_
  refine J_aload_n (pc := 12) dX6_init_12 rfl ?_
  refine J_cv (pc := 13) (N := mX6_clear) dX6_init_13 ml_X6_15 cf_X6_clear cv_X6_clear (nX6c37 (by first | rfl | assumption) (by first | rfl | assumption)) rfl rfl (Nat.le_of_ble_eq_true rfl) (by decide) (by decide) (by decide) (rw_of (ci := 6) (fs := [.ref 38, .int 0]) (by first | rfl | assumption) rfl rfl) (fun v9 h9 z9 q9 => ?_)
  obtain ⟨e9, rfl, rfl⟩ := q9
  cases e9
  exact J_ret (pc := 16) rfl rfl dX6_init_16 hQ
def kX6c51  (h : AH) : AH := (hup (hup h 51 (.inr (6, [.ref 52, .int 0].set 1 (.int 0)))) 52 (.inl (0, 10, .inl (fillN (fun _ => 0) (fun _ => -1) 0 10))))
set_option maxRecDepth 4000 in
theorem nX6c51 {g : Gp} {h : AH}  (a51 : h 51 = some (.inr (6, [.ref 52, .int 0]))) (a52 : h 52 = some (.inl (0, 10, .inl (fun _ => 0)))) : NT g mX6_clear 0 0 0 [.ref 51] h 53 (fun o h1 z1 => o = .inl none ∧ h1 = kX6c51 h ∧ z1 = 53) := by
  refine NT_of_CT (fun _ _ _ q => by cases q.1) (CT_of_J ⟨rfl, rfl⟩ (Nat.le_of_ble_eq_true rfl) (J_forget (lsp_at 2 _) (jq (fun Q hQ => ?_))))
  refine J_aload_n (pc := 0) dX6_clear_0 rfl ?_
  refine J_iconst (pc := 1) (v := 0) dX6_clear_1 (by decide) ?_
  refine J_put (pc := 2) (fs := [.ref 52, .int 0]) (v := .int 0) dX6_clear_2 kc6 fl_X6_18 rfl (by first | rfl | assumption) (Nat.le_of_ble_eq_true rfl) rfl rfl ?_
  refine J_iconst (pc := 5) (v := 0) dX6_clear_5 (by decide) ?_
  refine J_istore_n (pc := 6) dX6_clear_6 (by decide) rfl ?_
  refine J_hp (hup_id (a := 52) (x := .inl (0, 10, .inl (fun _ => 0))) (by first | rfl | assumption)).symm ?_
  have hloop : ∀ i, i ≤ 10 → J g mX6_clear 0 [] 7 [some (.ref 51), some (.int (ix i))] [] (hup (hup h 51 (.inr (6, [.ref 52, .int 0].set 1 (.int 0)))) 52 (.inl (0, 10, .inl (fillN (fun _ => 0) (fun _ => -1) 0 i)))) 53 0 0 Q := by
    refine dn_ind ?_ (fun i hi ih => ?_)
    · refine J_iload_n (pc := 7) dX6_clear_7 rfl ?_
      refine J_aload_n (pc := 8) dX6_clear_8 rfl ?_
      refine J_get (pc := 9) (fs := [.ref 52, .int 0]) (v := .ref 52) dX6_clear_9 kc6 fl_X6_9 (by first | rfl | assumption) rfl ?_
      refine J_alen (pc := 12) (t := 0) (n := 10) (w := 10) (x := .inl (fillN (fun _ => 0) (fun _ => -1) 0 10)) dX6_clear_12 (by decide) hup_s rfl ?_
      refine J_icmp_ge (pc := 13) (tgt := 29) dX6_clear_13 (by decide) (fun _ => ?_) (fun c9 => absurd (ix_ge (n := 10) rfl) c9)
      exact J_ret (pc := 29) rfl rfl dX6_clear_29 hQ
    · refine J_iload_n (pc := 7) dX6_clear_7 rfl ?_
      refine J_aload_n (pc := 8) dX6_clear_8 rfl ?_
      refine J_get (pc := 9) (fs := [.ref 52, .int 0]) (v := .ref 52) dX6_clear_9 kc6 fl_X6_9 (by first | rfl | assumption) rfl ?_
      refine J_alen (pc := 12) (t := 0) (n := 10) (w := 10) (x := .inl (fillN (fun _ => 0) (fun _ => -1) 0 i)) dX6_clear_12 (by decide) hup_s rfl ?_
      refine J_icmp_ge (pc := 13) (tgt := 29) dX6_clear_13 (by decide) (fun c9 => absurd c9 (ix_lt (n := 10) rfl hi (by decide))) (fun _ => ?_)
      refine J_aload_n (pc := 16) dX6_clear_16 rfl ?_
      refine J_get (pc := 17) (fs := [.ref 52, .int 0]) (v := .ref 52) dX6_clear_17 kc6 fl_X6_9 (by first | rfl | assumption) rfl ?_
      refine J_iload_n (pc := 20) dX6_clear_20 rfl ?_
      refine J_iconst (pc := 21) (v := -1) dX6_clear_21 (by decide) ?_
      refine J_isR (pc := 22) dX6_clear_22 (ix_nI i) ⟨hi, by decide⟩ ?_
      refine J_iinc (pc := 23) (v := 1) dX6_clear_23 rfl (by decide) rfl ?_
      refine J_goto (pc := 26) (tgt := 7) dX6_clear_26 (by decide) ?_
      exact ih
  exact hloop 0 (Nat.zero_le _)
def kX6i51  (h : AH) : AH := (kX6c51 (hup (hup h 52 (.inl (0, 10, .inl (fun _ => 0)))) 51 (.inr (6, [.null, .int 0].set 0 (.ref 52)))))
set_option maxRecDepth 4000 in
theorem nX6i51 {g : Gp} {h : AH}  (a51 : h 51 = some (.inr (6, [.null, .int 0]))) : NT g mX6_init 1 1 10 [.ref 51] h 52 (fun o h1 z1 => o = .inl none ∧ h1 = kX6i51 h ∧ z1 = 53) := by
  refine NT_of_CT (fun _ _ _ q => by cases q.1) (CT_of_J ⟨rfl, rfl⟩ (Nat.le_of_ble_eq_true rfl) (J_forget (lsp_at 1 _) (jq (fun Q hQ => ?_))))
  refine J_aload_n (pc := 0) dX6_init_0 rfl ?_
  refine J_obj (pc := 1) dX6_init_1 ⟨List.mem_of_getElem? (i := 467) rfl, rfl⟩ oi_i oi_c (by decide) ?_
  refine J_aload_n (pc := 4) dX6_init_4 rfl ?_
  refine J_bipush (pc := 5) (v := 10) dX6_init_5 (by decide) ?_
  refine J_na (pc := 7) (t := 0) (n := 10) (z := .inl (fun _ => 0)) dX6_init_7 rfl (fun _ q => q) ac_i ⟨by decide, by decide⟩ (by decide) (fun _ => rfl) (by decide) (by decide) (by decide) ?_
  refine J_putF (pc := 9) (fs := [.null, .int 0]) (v := .ref 52) dX6_init_9 kc6 fl_X6_9 ⟨rfl, rfl, rfl⟩ (by first | rfl | assumption) (Nat.le_of_ble_eq_true rfl) rfl rfl ?_
  refine J_aload_n (pc := 12) dX6_init_12 rfl ?_
  refine J_cv (pc := 13) (N := mX6_clear) dX6_init_13 ml_X6_15 cf_X6_clear cv_X6_clear (nX6c51 (by first | rfl | assumption) (by first | rfl | assumption)) rfl rfl (Nat.le_of_ble_eq_true rfl) (by decide) (by decide) (by decide) (rw_of (ci := 6) (fs := [.ref 52, .int 0]) (by first | rfl | assumption) rfl rfl) (fun v9 h9 z9 q9 => ?_)
  obtain ⟨e9, rfl, rfl⟩ := q9
  cases e9
  exact J_ret (pc := 16) rfl rfl dX6_init_16 hQ
def kX10i  (h : AH) : AH := (hup (kX5i57 (hup (hup (kX5i55 (hup (hup (kX5i53 (hup (hup (kX6i51 (hup (hup (kX2i48 (hup (hup (kX1i39 (hup (hup (kX6i37 (hup (hup (hup (hup (kX5i34 (hup (hup (kX5i32 (hup (hup (kX9i 7 (upd (upd (upd (upd (upd (upd (upd (fun _ => 0) (0 : Int32).toNatClampNeg 1000) (1 : Int32).toNatClampNeg 1001) (2 : Int32).toNatClampNeg 2000) (3 : Int32).toNatClampNeg 1002) (4 : Int32).toNatClampNeg 2) (5 : Int32).toNatClampNeg 2002) (6 : Int32).toNatClampNeg 2001) (hup (hup (kX3i (hup (hup (kX7i (hup (hup (kX4i (hup (hup (kX0i3 0 (fun _ => 0) (kX2i13 (hup (kX1i4 (hup (hup (hup (kX8i (hup h 1 (.inr (8, [.null, .int 0, .int 0, .int 0, .int 0, .int 0, .int 0])))) 0 (.inr (10, [.null, .null, .null, .null, .null, .null, .null, .null, .null, .null, .null, .null, .null, .int 0, .int 0, .int 0].set 0 (.ref 1)))) 3 (.inr (0, [.null, .null, .null, .null]))) 4 (.inr (1, [.null, .null, .null, .null, .null, .null, .null, .null, .int 0, .int 0, .int 0])))) 13 (.inr (2, [.null, .null, .int 0]))))) 0 (.inr (10, [.ref 1, .null, .null, .null, .null, .null, .null, .null, .null, .null, .null, .null, .null, .int 0, .int 0, .int 0].set 1 (.ref 3)))) 18 (.inr (4, [.null, .null, .null, .null, .int 0, .int 0, .int 0, .int 0])))) 0 (.inr (10, [.ref 1, .ref 3, .null, .null, .null, .null, .null, .null, .null, .null, .null, .null, .null, .int 0, .int 0, .int 0].set 2 (.ref 18)))) 23 (.inr (7, [.int 0, .int 0, .int 0])))) 0 (.inr (10, [.ref 1, .ref 3, .ref 18, .null, .null, .null, .null, .null, .null, .null, .null, .null, .null, .int 0, .int 0, .int 0].set 3 (.ref 23)))) 24 (.inr (3, [.null, .null, .null, .int 0])))) 0 (.inr (10, [.ref 1, .ref 3, .ref 18, .ref 23, .null, .null, .null, .null, .null, .null, .null, .null, .null, .int 0, .int 0, .int 0].set 4 (.ref 24)))) 28 (.inr (9, [.null, .int 0, .int 0, .int 0])))) 0 (.inr (10, [.ref 1, .ref 3, .ref 18, .ref 23, .ref 24, .null, .null, .null, .null, .null, .null, .null, .null, .int 0, .int 0, .int 0].set 5 (.ref 28)))) 32 (.inr (5, [.int 0, .int 0, .null, .int 0])))) 0 (.inr (10, [.ref 1, .ref 3, .ref 18, .ref 23, .ref 24, .ref 28, .null, .null, .null, .null, .null, .null, .null, .int 0, .int 0, .int 0].set 6 (.ref 32)))) 34 (.inr (5, [.int 0, .int 0, .null, .int 0])))) 0 (.inr (10, [.ref 1, .ref 3, .ref 18, .ref 23, .ref 24, .ref 28, .ref 32, .null, .null, .null, .null, .null, .null, .int 0, .int 0, .int 0].set 7 (.ref 34)))) 36 (.inl (3, 3, .inr (.inr (.inr (.inr (fun _ => none))))))) 0 (.inr (10, [.ref 1, .ref 3, .ref 18, .ref 23, .ref 24, .ref 28, .ref 32, .ref 34, .null, .null, .null, .null, .null, .int 0, .int 0, .int 0].set 8 (.ref 36)))) 37 (.inr (6, [.null, .int 0])))) 0 (.inr (10, [.ref 1, .ref 3, .ref 18, .ref 23, .ref 24, .ref 28, .ref 32, .ref 34, .ref 36, .null, .null, .null, .null, .int 0, .int 0, .int 0].set 9 (.ref 37)))) 39 (.inr (1, [.null, .null, .null, .null, .null, .null, .null, .null, .int 0, .int 0, .int 0])))) 0 (.inr (10, [.ref 1, .ref 3, .ref 18, .ref 23, .ref 24, .ref 28, .ref 32, .ref 34, .ref 36, .ref 37, .null, .null, .null, .int 0, .int 0, .int 0].set 10 (.ref 39)))) 48 (.inr (2, [.null, .null, .int 0])))) 0 (.inr (10, [.ref 1, .ref 3, .ref 18, .ref 23, .ref 24, .ref 28, .ref 32, .ref 34, .ref 36, .ref 37, .ref 39, .null, .null, .int 0, .int 0, .int 0].set 11 (.ref 48)))) 51 (.inr (6, [.null, .int 0])))) 0 (.inr (10, [.ref 1, .ref 3, .ref 18, .ref 23, .ref 24, .ref 28, .ref 32, .ref 34, .ref 36, .ref 37, .ref 39, .ref 48, .null, .int 0, .int 0, .int 0].set 12 (.ref 51)))) 53 (.inr (5, [.int 0, .int 0, .null, .int 0])))) 36 (.inl (3, 3, .inr (.inr (.inr (.inr (va_up (fun _ => none) (0 : Int32).toNatClampNeg (some 53)))))))) 55 (.inr (5, [.int 0, .int 0, .null, .int 0])))) 36 (.inl (3, 3, .inr (.inr (.inr (.inr (va_up (va_up (fun _ => none) (0 : Int32).toNatClampNeg (some 53)) (1 : Int32).toNatClampNeg (some 55)))))))) 57 (.inr (5, [.int 0, .int 0, .null, .int 0])))) 36 (.inl (3, 3, .inr (.inr (.inr (.inr (va_up (va_up (va_up (fun _ => none) (0 : Int32).toNatClampNeg (some 53)) (1 : Int32).toNatClampNeg (some 55)) (2 : Int32).toNatClampNeg (some 57))))))))
set_option maxRecDepth 4000 in
theorem nX10i {g : Gp} {h : AH}  (a0 : h 0 = some (.inr (10, [.null, .null, .null, .null, .null, .null, .null, .null, .null, .null, .null, .null, .null, .int 0, .int 0, .int 0]))) : NT g mX10_init 5 58 3526 [.ref 0] h 1 (fun o h1 z1 => o = .inl none ∧ h1 = kX10i h ∧ z1 = 59) := by
  refine NT_of_CT (fun _ _ _ q => by cases q.1) (CT_of_J ⟨rfl, rfl⟩ (Nat.le_of_ble_eq_true rfl) (J_forget (lsp_at 2 _) (jq (fun Q hQ => ?_))))
  refine J_aload_n (pc := 0) dX10_init_0 rfl ?_
  refine J_obj (pc := 1) dX10_init_1 ⟨List.mem_of_getElem? (i := 177) rfl, rfl⟩ oi_i oi_c (by decide) ?_
  refine J_aload_n (pc := 4) dX10_init_4 rfl ?_
  refine J_new (pc := 5) dX10_init_5 kc8 ⟨List.mem_of_getElem? (i := 180) rfl, rfl⟩ ⟨List.mem_of_getElem? (i := 181) rfl, rfl⟩ ⟨List.mem_of_getElem? (i := 148) rfl, rfl⟩ [.null, .int 0, .int 0, .int 0, .int 0, .int 0, .int 0] (fun _ => rfl) (by decide) (by decide) (by decide) (by decide) ?_
  refine J_dup (pc := 8) dX10_init_8 rfl ?_
  refine J_ciN (pc := 9) (N := mX8_init) dX10_init_9 ml_X10_9 cf_X8_init cv_X8_init (nX8i (by first | rfl | assumption)) rfl rfl (Nat.le_of_ble_eq_true rfl) (by decide) (by decide) (by decide) (fun v9 h9 z9 q9 => ?_)
  obtain ⟨e9, rfl, rfl⟩ := q9
  cases e9
  refine J_putF (pc := 12) (fs := [.null, .null, .null, .null, .null, .null, .null, .null, .null, .null, .null, .null, .null, .int 0, .int 0, .int 0]) (v := .ref 1) dX10_init_12 kc10 fl_X10_10 ⟨rfl, rfl, rfl⟩ (by first | rfl | assumption) (Nat.le_of_ble_eq_true rfl) rfl rfl ?_
  refine J_aload_n (pc := 15) dX10_init_15 rfl ?_
  refine J_new (pc := 16) dX10_init_16 kc0 ⟨List.mem_of_getElem? (i := 217) rfl, rfl⟩ ⟨List.mem_of_getElem? (i := 218) rfl, rfl⟩ ⟨List.mem_of_getElem? (i := 149) rfl, rfl⟩ [.null, .null, .null, .null] (fun _ => rfl) (by decide) (by decide) (by decide) (by decide) ?_
  refine J_dup (pc := 19) dX10_init_19 rfl ?_
  refine J_new (pc := 20) dX10_init_20 kc1 ⟨List.mem_of_getElem? (i := 219) rfl, rfl⟩ ⟨List.mem_of_getElem? (i := 220) rfl, rfl⟩ ⟨List.mem_of_getElem? (i := 150) rfl, rfl⟩ [.null, .null, .null, .null, .null, .null, .null, .null, .int 0, .int 0, .int 0] (fun _ => rfl) (by decide) (by decide) (by decide) (by decide) ?_
  refine J_dup (pc := 23) dX10_init_23 rfl ?_
  refine J_ciN (pc := 24) (N := mX1_init) dX10_init_24 ml_X10_20 cf_X1_init cv_X1_init (nX1i4 (by first | rfl | assumption)) rfl rfl (Nat.le_of_ble_eq_true rfl) (by decide) (by decide) (by decide) (fun v9 h9 z9 q9 => ?_)
  obtain ⟨e9, rfl, rfl⟩ := q9
  cases e9
  refine J_new (pc := 27) dX10_init_27 kc2 ⟨List.mem_of_getElem? (i := 293) rfl, rfl⟩ ⟨List.mem_of_getElem? (i := 294) rfl, rfl⟩ ⟨List.mem_of_getElem? (i := 151) rfl, rfl⟩ [.null, .null, .int 0] (fun _ => rfl) (by decide) (by decide) (by decide) (by decide) ?_
  refine J_dup (pc := 30) dX10_init_30 rfl ?_
  refine J_ciN (pc := 31) (N := mX2_init) dX10_init_31 ml_X10_23 cf_X2_init cv_X2_init (nX2i13 (by first | rfl | assumption)) rfl rfl (Nat.le_of_ble_eq_true rfl) (by decide) (by decide) (by decide) (fun v9 h9 z9 q9 => ?_)
  obtain ⟨e9, rfl, rfl⟩ := q9
  cases e9
  refine J_ciN (pc := 34) (N := mX0_init) dX10_init_34 ml_X10_24 cf_X0_init cv_X0_init (nX0i3 (n9 := 0) (w9 := (fun _ => 0)) (by first | rfl | assumption) (by first | rfl | assumption) (by first | rfl | assumption) (by first | rfl | assumption)) rfl rfl (Nat.le_of_ble_eq_true rfl) (by decide) (by decide) (by decide) (fun v9 h9 z9 q9 => ?_)
  obtain ⟨e9, rfl, rfl⟩ := q9
  cases e9
  refine J_putF (pc := 37) (fs := [.ref 1, .null, .null, .null, .null, .null, .null, .null, .null, .null, .null, .null, .null, .int 0, .int 0, .int 0]) (v := .ref 3) dX10_init_37 kc10 fl_X10_27 ⟨rfl, rfl, rfl⟩ (by first | rfl | assumption) (Nat.le_of_ble_eq_true rfl) rfl rfl ?_
  refine J_aload_n (pc := 40) dX10_init_40 rfl ?_
  refine J_new (pc := 41) dX10_init_41 kc4 ⟨List.mem_of_getElem? (i := 347) rfl, rfl⟩ ⟨List.mem_of_getElem? (i := 348) rfl, rfl⟩ ⟨List.mem_of_getElem? (i := 152) rfl, rfl⟩ [.null, .null, .null, .null, .int 0, .int 0, .int 0, .int 0] (fun _ => rfl) (by decide) (by decide) (by decide) (by decide) ?_
  refine J_dup (pc := 44) dX10_init_44 rfl ?_
  refine J_ciN (pc := 45) (N := mX4_init) dX10_init_45 ml_X10_33 cf_X4_init cv_X4_init (nX4i (by first | rfl | assumption)) rfl rfl (Nat.le_of_ble_eq_true rfl) (by decide) (by decide) (by decide) (fun v9 h9 z9 q9 => ?_)
  obtain ⟨e9, rfl, rfl⟩ := q9
  cases e9
  refine J_putF (pc := 48) (fs := [.ref 1, .ref 3, .null, .null, .null, .null, .null, .null, .null, .null, .null, .null, .null, .int 0, .int 0, .int 0]) (v := .ref 18) dX10_init_48 kc10 fl_X10_34 ⟨rfl, rfl, rfl⟩ (by first | rfl | assumption) (Nat.le_of_ble_eq_true rfl) rfl rfl ?_
  refine J_aload_n (pc := 51) dX10_init_51 rfl ?_
  refine J_new (pc := 52) dX10_init_52 kc7 ⟨List.mem_of_getElem? (i := 381) rfl, rfl⟩ ⟨List.mem_of_getElem? (i := 382) rfl, rfl⟩ ⟨List.mem_of_getElem? (i := 153) rfl, rfl⟩ [.int 0, .int 0, .int 0] (fun _ => rfl) (by decide) (by decide) (by decide) (by decide) ?_
  refine J_dup (pc := 55) dX10_init_55 rfl ?_
  refine J_ciN (pc := 56) (N := mX7_init) dX10_init_56 ml_X10_40 cf_X7_init cv_X7_init (nX7i ) rfl rfl (Nat.le_of_ble_eq_true rfl) (by decide) (by decide) (by decide) (fun v9 h9 z9 q9 => ?_)
  obtain ⟨e9, rfl, rfl⟩ := q9
  cases e9
  refine J_putF (pc := 59) (fs := [.ref 1, .ref 3, .ref 18, .null, .null, .null, .null, .null, .null, .null, .null, .null, .null, .int 0, .int 0, .int 0]) (v := .ref 23) dX10_init_59 kc10 fl_X10_41 ⟨rfl, rfl, rfl⟩ (by first | rfl | assumption) (Nat.le_of_ble_eq_true rfl) rfl rfl ?_
  refine J_aload_n (pc := 62) dX10_init_62 rfl ?_
  refine J_new (pc := 63) dX10_init_63 kc3 ⟨List.mem_of_getElem? (i := 397) rfl, rfl⟩ ⟨List.mem_of_getElem? (i := 398) rfl, rfl⟩ ⟨List.mem_of_getElem? (i := 154) rfl, rfl⟩ [.null, .null, .null, .int 0] (fun _ => rfl) (by decide) (by decide) (by decide) (by decide) ?_
  refine J_dup (pc := 66) dX10_init_66 rfl ?_
  refine J_ciN (pc := 67) (N := mX3_init) dX10_init_67 ml_X10_47 cf_X3_init cv_X3_init (nX3i (by first | rfl | assumption)) rfl rfl (Nat.le_of_ble_eq_true rfl) (by decide) (by decide) (by decide) (fun v9 h9 z9 q9 => ?_)
  obtain ⟨e9, rfl, rfl⟩ := q9
  cases e9
  refine J_putF (pc := 70) (fs := [.ref 1, .ref 3, .ref 18, .ref 23, .null, .null, .null, .null, .null, .null, .null, .null, .null, .int 0, .int 0, .int 0]) (v := .ref 24) dX10_init_70 kc10 fl_X10_48 ⟨rfl, rfl, rfl⟩ (by first | rfl | assumption) (Nat.le_of_ble_eq_true rfl) rfl rfl ?_
  refine J_aload_n (pc := 73) dX10_init_73 rfl ?_
  refine J_new (pc := 74) dX10_init_74 kc9 ⟨List.mem_of_getElem? (i := 417) rfl, rfl⟩ ⟨List.mem_of_getElem? (i := 418) rfl, rfl⟩ ⟨List.mem_of_getElem? (i := 155) rfl, rfl⟩ [.null, .int 0, .int 0, .int 0] (fun _ => rfl) (by decide) (by decide) (by decide) (by decide) ?_
  refine J_dup (pc := 77) dX10_init_77 rfl ?_
  refine J_aload_n (pc := 78) dX10_init_78 rfl ?_
  refine J_get (pc := 79) (fs := [.ref 1, .ref 3, .ref 18, .ref 23, .ref 24, .null, .null, .null, .null, .null, .null, .null, .null, .int 0, .int 0, .int 0]) (v := .ref 3) dX10_init_79 kc10 fl_X10_27 (by first | rfl | assumption) rfl ?_
  refine J_getN (pc := 82) (fs := [.ref 16, .ref 17, .ref 4, .ref 13]) (v := .ref 4) dX10_init_82 kc0 fl_X10_54 (by first | rfl | assumption) rfl ?_
  refine J_aload_n (pc := 85) dX10_init_85 rfl ?_
  refine J_get (pc := 86) (fs := [.ref 1, .ref 3, .ref 18, .ref 23, .ref 24, .null, .null, .null, .null, .null, .null, .null, .null, .int 0, .int 0, .int 0]) (v := .ref 3) dX10_init_86 kc10 fl_X10_27 (by first | rfl | assumption) rfl ?_
  refine J_getN (pc := 89) (fs := [.ref 16, .ref 17, .ref 4, .ref 13]) (v := .ref 13) dX10_init_89 kc0 fl_X10_58 (by first | rfl | assumption) rfl ?_
  refine J_ciN (pc := 92) (N := mX9_init) dX10_init_92 ml_X10_62 cf_X9_init cv_X9_init (nX9i (n9 := 7) (w9 := (upd (upd (upd (upd (upd (upd (upd (fun _ => 0) (0 : Int32).toNatClampNeg 1000) (1 : Int32).toNatClampNeg 1001) (2 : Int32).toNatClampNeg 2000) (3 : Int32).toNatClampNeg 1002) (4 : Int32).toNatClampNeg 2) (5 : Int32).toNatClampNeg 2002) (6 : Int32).toNatClampNeg 2001)) (by first | rfl | assumption) (by first | rfl | assumption) (by first | rfl | assumption) (by first | rfl | assumption)) rfl rfl (Nat.le_of_ble_eq_true rfl) (by decide) (by decide) (by decide) (fun v9 h9 z9 q9 => ?_)
  obtain ⟨e9, rfl, rfl⟩ := q9
  cases e9
  refine J_putF (pc := 95) (fs := [.ref 1, .ref 3, .ref 18, .ref 23, .ref 24, .null, .null, .null, .null, .null, .null, .null, .null, .int 0, .int 0, .int 0]) (v := .ref 28) dX10_init_95 kc10 fl_X10_63 ⟨rfl, rfl, rfl⟩ (by first | rfl | assumption) (Nat.le_of_ble_eq_true rfl) rfl rfl ?_
  refine J_aload_n (pc := 98) dX10_init_98 rfl ?_
  refine J_new (pc := 99) dX10_init_99 kc5 ⟨List.mem_of_getElem? (i := 441) rfl, rfl⟩ ⟨List.mem_of_getElem? (i := 442) rfl, rfl⟩ ⟨List.mem_of_getElem? (i := 156) rfl, rfl⟩ [.int 0, .int 0, .null, .int 0] (fun _ => rfl) (by decide) (by decide) (by decide) (by decide) ?_
  refine J_dup (pc := 102) dX10_init_102 rfl ?_
  refine J_bipush (pc := 103) (v := 16) dX10_init_103 (by decide) ?_
  refine J_bipush (pc := 105) (v := 31) dX10_init_105 (by decide) ?_
  refine J_ciN (pc := 107) (N := mX5_init) dX10_init_107 ml_X10_69 cf_X5_init cv_X5_init (nX5i32 (by first | rfl | assumption)) rfl rfl (Nat.le_of_ble_eq_true rfl) (by decide) (by decide) (by decide) (fun v9 h9 z9 q9 => ?_)
  obtain ⟨e9, rfl, rfl⟩ := q9
  cases e9
  refine J_putF (pc := 110) (fs := [.ref 1, .ref 3, .ref 18, .ref 23, .ref 24, .ref 28, .null, .null, .null, .null, .null, .null, .null, .int 0, .int 0, .int 0]) (v := .ref 32) dX10_init_110 kc10 fl_X10_72 ⟨rfl, rfl, rfl⟩ (by first | rfl | assumption) (Nat.le_of_ble_eq_true rfl) rfl rfl ?_
  refine J_aload_n (pc := 113) dX10_init_113 rfl ?_
  refine J_new (pc := 114) dX10_init_114 kc5 ⟨List.mem_of_getElem? (i := 441) rfl, rfl⟩ ⟨List.mem_of_getElem? (i := 442) rfl, rfl⟩ ⟨List.mem_of_getElem? (i := 156) rfl, rfl⟩ [.int 0, .int 0, .null, .int 0] (fun _ => rfl) (by decide) (by decide) (by decide) (by decide) ?_
  refine J_dup (pc := 117) dX10_init_117 rfl ?_
  refine J_iconst (pc := 118) (v := 3) dX10_init_118 (by decide) ?_
  refine J_bipush (pc := 119) (v := 31) dX10_init_119 (by decide) ?_
  refine J_ciN (pc := 121) (N := mX5_init) dX10_init_121 ml_X10_69 cf_X5_init cv_X5_init (nX5i34 (by first | rfl | assumption)) rfl rfl (Nat.le_of_ble_eq_true rfl) (by decide) (by decide) (by decide) (fun v9 h9 z9 q9 => ?_)
  obtain ⟨e9, rfl, rfl⟩ := q9
  cases e9
  refine J_putF (pc := 124) (fs := [.ref 1, .ref 3, .ref 18, .ref 23, .ref 24, .ref 28, .ref 32, .null, .null, .null, .null, .null, .null, .int 0, .int 0, .int 0]) (v := .ref 34) dX10_init_124 kc10 fl_X10_76 ⟨rfl, rfl, rfl⟩ (by first | rfl | assumption) (Nat.le_of_ble_eq_true rfl) rfl rfl ?_
  refine J_aload_n (pc := 127) dX10_init_127 rfl ?_
  refine J_iconst (pc := 128) (v := 3) dX10_init_128 (by decide) ?_
  refine J_anew (pc := 129) (n := 3) dX10_init_129 ⟨List.mem_of_getElem? (i := 441) rfl, rfl⟩ ⟨by decide, by decide⟩ (by decide) (by decide) (by decide) (by decide) ?_
  refine J_putF (pc := 132) (fs := [.ref 1, .ref 3, .ref 18, .ref 23, .ref 24, .ref 28, .ref 32, .ref 34, .null, .null, .null, .null, .null, .int 0, .int 0, .int 0]) (v := .ref 36) dX10_init_132 kc10 fl_X10_79 ⟨rfl, rfl, rfl⟩ (by first | rfl | assumption) (Nat.le_of_ble_eq_true rfl) rfl rfl ?_
  refine J_aload_n (pc := 135) dX10_init_135 rfl ?_
  refine J_new (pc := 136) dX10_init_136 kc6 ⟨List.mem_of_getElem? (i := 462) rfl, rfl⟩ ⟨List.mem_of_getElem? (i := 463) rfl, rfl⟩ ⟨List.mem_of_getElem? (i := 157) rfl, rfl⟩ [.null, .int 0] (fun _ => rfl) (by decide) (by decide) (by decide) (by decide) ?_
  refine J_dup (pc := 139) dX10_init_139 rfl ?_
  refine J_ciN (pc := 140) (N := mX6_init) dX10_init_140 ml_X10_85 cf_X6_init cv_X6_init (nX6i37 (by first | rfl | assumption)) rfl rfl (Nat.le_of_ble_eq_true rfl) (by decide) (by decide) (by decide) (fun v9 h9 z9 q9 => ?_)
  obtain ⟨e9, rfl, rfl⟩ := q9
  cases e9
  refine J_put (pc := 143) (fs := [.ref 1, .ref 3, .ref 18, .ref 23, .ref 24, .ref 28, .ref 32, .ref 34, .ref 36, .null, .null, .null, .null, .int 0, .int 0, .int 0]) (v := .ref 37) dX10_init_143 kc10 fl_X10_86 rfl (by first | rfl | assumption) (Nat.le_of_ble_eq_true rfl) rfl rfl ?_
  refine J_aload_n (pc := 146) dX10_init_146 rfl ?_
  refine J_new (pc := 147) dX10_init_147 kc1 ⟨List.mem_of_getElem? (i := 219) rfl, rfl⟩ ⟨List.mem_of_getElem? (i := 220) rfl, rfl⟩ ⟨List.mem_of_getElem? (i := 150) rfl, rfl⟩ [.null, .null, .null, .null, .null, .null, .null, .null, .int 0, .int 0, .int 0] (fun _ => rfl) (by decide) (by decide) (by decide) (by decide) ?_
  refine J_dup (pc := 150) dX10_init_150 rfl ?_
  refine J_ciN (pc := 151) (N := mX1_init) dX10_init_151 ml_X10_20 cf_X1_init cv_X1_init (nX1i39 (by first | rfl | assumption)) rfl rfl (Nat.le_of_ble_eq_true rfl) (by decide) (by decide) (by decide) (fun v9 h9 z9 q9 => ?_)
  obtain ⟨e9, rfl, rfl⟩ := q9
  cases e9
  refine J_put (pc := 154) (fs := [.ref 1, .ref 3, .ref 18, .ref 23, .ref 24, .ref 28, .ref 32, .ref 34, .ref 36, .ref 37, .null, .null, .null, .int 0, .int 0, .int 0]) (v := .ref 39) dX10_init_154 kc10 fl_X10_90 rfl (by first | rfl | assumption) (Nat.le_of_ble_eq_true rfl) rfl rfl ?_
  refine J_aload_n (pc := 157) dX10_init_157 rfl ?_
  refine J_new (pc := 158) dX10_init_158 kc2 ⟨List.mem_of_getElem? (i := 293) rfl, rfl⟩ ⟨List.mem_of_getElem? (i := 294) rfl, rfl⟩ ⟨List.mem_of_getElem? (i := 151) rfl, rfl⟩ [.null, .null, .int 0] (fun _ => rfl) (by decide) (by decide) (by decide) (by decide) ?_
  refine J_dup (pc := 161) dX10_init_161 rfl ?_
  refine J_ciN (pc := 162) (N := mX2_init) dX10_init_162 ml_X10_23 cf_X2_init cv_X2_init (nX2i48 (by first | rfl | assumption)) rfl rfl (Nat.le_of_ble_eq_true rfl) (by decide) (by decide) (by decide) (fun v9 h9 z9 q9 => ?_)
  obtain ⟨e9, rfl, rfl⟩ := q9
  cases e9
  refine J_put (pc := 165) (fs := [.ref 1, .ref 3, .ref 18, .ref 23, .ref 24, .ref 28, .ref 32, .ref 34, .ref 36, .ref 37, .ref 39, .null, .null, .int 0, .int 0, .int 0]) (v := .ref 48) dX10_init_165 kc10 fl_X10_93 rfl (by first | rfl | assumption) (Nat.le_of_ble_eq_true rfl) rfl rfl ?_
  refine J_aload_n (pc := 168) dX10_init_168 rfl ?_
  refine J_new (pc := 169) dX10_init_169 kc6 ⟨List.mem_of_getElem? (i := 462) rfl, rfl⟩ ⟨List.mem_of_getElem? (i := 463) rfl, rfl⟩ ⟨List.mem_of_getElem? (i := 157) rfl, rfl⟩ [.null, .int 0] (fun _ => rfl) (by decide) (by decide) (by decide) (by decide) ?_
  refine J_dup (pc := 172) dX10_init_172 rfl ?_
  refine J_ciN (pc := 173) (N := mX6_init) dX10_init_173 ml_X10_85 cf_X6_init cv_X6_init (nX6i51 (by first | rfl | assumption)) rfl rfl (Nat.le_of_ble_eq_true rfl) (by decide) (by decide) (by decide) (fun v9 h9 z9 q9 => ?_)
  obtain ⟨e9, rfl, rfl⟩ := q9
  cases e9
  refine J_put (pc := 176) (fs := [.ref 1, .ref 3, .ref 18, .ref 23, .ref 24, .ref 28, .ref 32, .ref 34, .ref 36, .ref 37, .ref 39, .ref 48, .null, .int 0, .int 0, .int 0]) (v := .ref 51) dX10_init_176 kc10 fl_X10_96 rfl (by first | rfl | assumption) (Nat.le_of_ble_eq_true rfl) rfl rfl ?_
  refine J_iconst (pc := 179) (v := 0) dX10_init_179 (by decide) ?_
  refine J_istore_n (pc := 180) dX10_init_180 (by decide) rfl ?_
  refine J_iload_n (pc := 181) dX10_init_181 rfl ?_
  refine J_aload_n (pc := 182) dX10_init_182 rfl ?_
  refine J_get (pc := 183) (fs := [.ref 1, .ref 3, .ref 18, .ref 23, .ref 24, .ref 28, .ref 32, .ref 34, .ref 36, .ref 37, .ref 39, .ref 48, .ref 51, .int 0, .int 0, .int 0]) (v := .ref 36) dX10_init_183 kc10 fl_X10_79 (by first | rfl | assumption) rfl ?_
  refine J_alen (pc := 186) (t := 3) (n := 3) (w := 3) (x := .inr (.inr (.inr (.inr (fun _ => none))))) dX10_init_186 (by decide) (by first | rfl | assumption) rfl ?_
  refine J_icmp_ge (pc := 187) (tgt := 213) dX10_init_187 (by decide) (fun c9 => absurd c9 (by decide)) (fun _ => ?_)
  refine J_aload_n (pc := 190) dX10_init_190 rfl ?_
  refine J_get (pc := 191) (fs := [.ref 1, .ref 3, .ref 18, .ref 23, .ref 24, .ref 28, .ref 32, .ref 34, .ref 36, .ref 37, .ref 39, .ref 48, .ref 51, .int 0, .int 0, .int 0]) (v := .ref 36) dX10_init_191 kc10 fl_X10_79 (by first | rfl | assumption) rfl ?_
  refine J_iload_n (pc := 194) dX10_init_194 rfl ?_
  refine J_new (pc := 195) dX10_init_195 kc5 ⟨List.mem_of_getElem? (i := 441) rfl, rfl⟩ ⟨List.mem_of_getElem? (i := 442) rfl, rfl⟩ ⟨List.mem_of_getElem? (i := 156) rfl, rfl⟩ [.int 0, .int 0, .null, .int 0] (fun _ => rfl) (by decide) (by decide) (by decide) (by decide) ?_
  refine J_dup (pc := 198) dX10_init_198 rfl ?_
  refine J_bipush (pc := 199) (v := 16) dX10_init_199 (by decide) ?_
  refine J_bipush (pc := 201) (v := 31) dX10_init_201 (by decide) ?_
  refine J_ciN (pc := 203) (N := mX5_init) dX10_init_203 ml_X10_69 cf_X5_init cv_X5_init (nX5i53 (by first | rfl | assumption)) rfl rfl (Nat.le_of_ble_eq_true rfl) (by decide) (by decide) (by decide) (fun v9 h9 z9 q9 => ?_)
  obtain ⟨e9, rfl, rfl⟩ := q9
  cases e9
  refine J_aast (pc := 206) (n := 3) (f := (fun _ => none)) (vs := [.int 16, .int 31, .ref 54, .int 0]) dX10_init_206 (by first | rfl | assumption) (by first | rfl | assumption) (vp_in_nI (n := 0) (N := 3) (by decide) (by decide)) ?_
  refine J_iinc (pc := 207) (v := 1) dX10_init_207 rfl (by decide) rfl ?_
  refine J_goto (pc := 210) (tgt := 181) dX10_init_210 (by decide) ?_
  refine J_iload_n (pc := 181) dX10_init_181 rfl ?_
  refine J_aload_n (pc := 182) dX10_init_182 rfl ?_
  refine J_get (pc := 183) (fs := [.ref 1, .ref 3, .ref 18, .ref 23, .ref 24, .ref 28, .ref 32, .ref 34, .ref 36, .ref 37, .ref 39, .ref 48, .ref 51, .int 0, .int 0, .int 0]) (v := .ref 36) dX10_init_183 kc10 fl_X10_79 (by first | rfl | assumption) rfl ?_
  refine J_alen (pc := 186) (t := 3) (n := 3) (w := 3) (x := .inr (.inr (.inr (.inr (va_up (fun _ => none) (0 : Int32).toNatClampNeg (some 53)))))) dX10_init_186 (by decide) (by first | rfl | assumption) rfl ?_
  refine J_icmp_ge (pc := 187) (tgt := 213) dX10_init_187 (by decide) (fun c9 => absurd c9 (by decide)) (fun _ => ?_)
  refine J_aload_n (pc := 190) dX10_init_190 rfl ?_
  refine J_get (pc := 191) (fs := [.ref 1, .ref 3, .ref 18, .ref 23, .ref 24, .ref 28, .ref 32, .ref 34, .ref 36, .ref 37, .ref 39, .ref 48, .ref 51, .int 0, .int 0, .int 0]) (v := .ref 36) dX10_init_191 kc10 fl_X10_79 (by first | rfl | assumption) rfl ?_
  refine J_iload_n (pc := 194) dX10_init_194 rfl ?_
  refine J_new (pc := 195) dX10_init_195 kc5 ⟨List.mem_of_getElem? (i := 441) rfl, rfl⟩ ⟨List.mem_of_getElem? (i := 442) rfl, rfl⟩ ⟨List.mem_of_getElem? (i := 156) rfl, rfl⟩ [.int 0, .int 0, .null, .int 0] (fun _ => rfl) (by decide) (by decide) (by decide) (by decide) ?_
  refine J_dup (pc := 198) dX10_init_198 rfl ?_
  refine J_bipush (pc := 199) (v := 16) dX10_init_199 (by decide) ?_
  refine J_bipush (pc := 201) (v := 31) dX10_init_201 (by decide) ?_
  refine J_ciN (pc := 203) (N := mX5_init) dX10_init_203 ml_X10_69 cf_X5_init cv_X5_init (nX5i55 (by first | rfl | assumption)) rfl rfl (Nat.le_of_ble_eq_true rfl) (by decide) (by decide) (by decide) (fun v9 h9 z9 q9 => ?_)
  obtain ⟨e9, rfl, rfl⟩ := q9
  cases e9
  refine J_aast (pc := 206) (n := 3) (f := (va_up (fun _ => none) (0 : Int32).toNatClampNeg (some 53))) (vs := [.int 16, .int 31, .ref 56, .int 0]) dX10_init_206 (by first | rfl | assumption) (by first | rfl | assumption) (vp_in_nI (n := 1) (N := 3) (by decide) (by decide)) ?_
  refine J_iinc (pc := 207) (v := 1) dX10_init_207 rfl (by decide) rfl ?_
  refine J_goto (pc := 210) (tgt := 181) dX10_init_210 (by decide) ?_
  refine J_iload_n (pc := 181) dX10_init_181 rfl ?_
  refine J_aload_n (pc := 182) dX10_init_182 rfl ?_
  refine J_get (pc := 183) (fs := [.ref 1, .ref 3, .ref 18, .ref 23, .ref 24, .ref 28, .ref 32, .ref 34, .ref 36, .ref 37, .ref 39, .ref 48, .ref 51, .int 0, .int 0, .int 0]) (v := .ref 36) dX10_init_183 kc10 fl_X10_79 (by first | rfl | assumption) rfl ?_
  refine J_alen (pc := 186) (t := 3) (n := 3) (w := 3) (x := .inr (.inr (.inr (.inr (va_up (va_up (fun _ => none) (0 : Int32).toNatClampNeg (some 53)) (1 : Int32).toNatClampNeg (some 55)))))) dX10_init_186 (by decide) (by first | rfl | assumption) rfl ?_
  refine J_icmp_ge (pc := 187) (tgt := 213) dX10_init_187 (by decide) (fun c9 => absurd c9 (by decide)) (fun _ => ?_)
  refine J_aload_n (pc := 190) dX10_init_190 rfl ?_
  refine J_get (pc := 191) (fs := [.ref 1, .ref 3, .ref 18, .ref 23, .ref 24, .ref 28, .ref 32, .ref 34, .ref 36, .ref 37, .ref 39, .ref 48, .ref 51, .int 0, .int 0, .int 0]) (v := .ref 36) dX10_init_191 kc10 fl_X10_79 (by first | rfl | assumption) rfl ?_
  refine J_iload_n (pc := 194) dX10_init_194 rfl ?_
  refine J_new (pc := 195) dX10_init_195 kc5 ⟨List.mem_of_getElem? (i := 441) rfl, rfl⟩ ⟨List.mem_of_getElem? (i := 442) rfl, rfl⟩ ⟨List.mem_of_getElem? (i := 156) rfl, rfl⟩ [.int 0, .int 0, .null, .int 0] (fun _ => rfl) (by decide) (by decide) (by decide) (by decide) ?_
  refine J_dup (pc := 198) dX10_init_198 rfl ?_
  refine J_bipush (pc := 199) (v := 16) dX10_init_199 (by decide) ?_
  refine J_bipush (pc := 201) (v := 31) dX10_init_201 (by decide) ?_
  refine J_ciN (pc := 203) (N := mX5_init) dX10_init_203 ml_X10_69 cf_X5_init cv_X5_init (nX5i57 (by first | rfl | assumption)) rfl rfl (Nat.le_of_ble_eq_true rfl) (by decide) (by decide) (by decide) (fun v9 h9 z9 q9 => ?_)
  obtain ⟨e9, rfl, rfl⟩ := q9
  cases e9
  refine J_aast (pc := 206) (n := 3) (f := (va_up (va_up (fun _ => none) (0 : Int32).toNatClampNeg (some 53)) (1 : Int32).toNatClampNeg (some 55))) (vs := [.int 16, .int 31, .ref 58, .int 0]) dX10_init_206 (by first | rfl | assumption) (by first | rfl | assumption) (vp_in_nI (n := 2) (N := 3) (by decide) (by decide)) ?_
  refine J_iinc (pc := 207) (v := 1) dX10_init_207 rfl (by decide) rfl ?_
  refine J_goto (pc := 210) (tgt := 181) dX10_init_210 (by decide) ?_
  refine J_iload_n (pc := 181) dX10_init_181 rfl ?_
  refine J_aload_n (pc := 182) dX10_init_182 rfl ?_
  refine J_get (pc := 183) (fs := [.ref 1, .ref 3, .ref 18, .ref 23, .ref 24, .ref 28, .ref 32, .ref 34, .ref 36, .ref 37, .ref 39, .ref 48, .ref 51, .int 0, .int 0, .int 0]) (v := .ref 36) dX10_init_183 kc10 fl_X10_79 (by first | rfl | assumption) rfl ?_
  refine J_alen (pc := 186) (t := 3) (n := 3) (w := 3) (x := .inr (.inr (.inr (.inr (va_up (va_up (va_up (fun _ => none) (0 : Int32).toNatClampNeg (some 53)) (1 : Int32).toNatClampNeg (some 55)) (2 : Int32).toNatClampNeg (some 57)))))) dX10_init_186 (by decide) (by first | rfl | assumption) rfl ?_
  refine J_icmp_ge (pc := 187) (tgt := 213) dX10_init_187 (by decide) (fun _ => ?_) (fun c9 => absurd c9 (by decide))
  exact J_ret (pc := 213) rfl rfl dX10_init_213 hQ
def kX11t  (h : AH) : AH := (hup (hup h 62 (.inl (0, 3, .inl (fillN (fun _ => 0) (fun _ => 0) 0 3)))) 66 (.inl (0, 8, .inl (fillN (fun _ => 0) (fun _ => -1) 0 8))))
set_option maxRecDepth 4000 in
theorem nX11t {g : Gp} {h : AH}  (a59 : h 59 = some (.inr (11, [.int 0, .int 0, .int 0, .int (-1), .int 0, .int 0, .int 0, .int 0, .int 0, .ref 60, .ref 61, .ref 62, .ref 63, .ref 64, .ref 65, .ref 66, .ref 67, .ref 68, .ref 79, .ref 90, .ref 99, .int 0, .int 0, .ref 108, .ref 269, .ref 430, .ref 441, .ref 452, .ref 453, .ref 454, .int 0, .ref 535, .ref 536, .ref 537, .ref 554, .int 0, .int 0, .int 0, .int 0, .int 0, .int 0, .int 0, .ref 558, .ref 559, .ref 560, .ref 561, .int 0, .int 0, .int 0]))) (a62 : h 62 = some (.inl (0, 3, .inl (fun _ => 0)))) (a66 : h 66 = some (.inl (0, 8, .inl (fun _ => 0)))) : NT g mX11_tellsNothing 0 0 0 [.ref 59] h 562 (fun o h1 z1 => o = .inl none ∧ h1 = kX11t h ∧ z1 = 562) := by
  refine NT_of_CT (fun _ _ _ q => by cases q.1) (CT_of_J ⟨rfl, rfl⟩ (Nat.le_of_ble_eq_true rfl) (J_forget (lsp_at 2 _) (jq (fun Q hQ => ?_))))
  refine J_iconst (pc := 0) (v := 0) dX11_tellsNothing_0 (by decide) ?_
  refine J_istore_n (pc := 1) dX11_tellsNothing_1 (by decide) rfl ?_
  refine J_hp (hup_id (a := 62) (x := .inl (0, 3, .inl (fun _ => 0))) (by first | rfl | assumption)).symm ?_
  have hloop2 : ∀ i, i ≤ 3 → J g mX11_tellsNothing 0 [] 2 [some (.ref 59), some (.int (ix i))] [] (hup h 62 (.inl (0, 3, .inl (fillN (fun _ => 0) (fun _ => 0) 0 i)))) 562 0 0 Q := by
    refine dn_ind ?_ (fun i hi ih => ?_)
    · refine J_iload_n (pc := 2) dX11_tellsNothing_2 rfl ?_
      refine J_iconst (pc := 3) (v := 3) dX11_tellsNothing_3 (by decide) ?_
      refine J_icmp_ge (pc := 4) (tgt := 20) dX11_tellsNothing_4 (by decide) (fun _ => ?_) (fun c9 => absurd (ix_ge (n := 3) rfl) c9)
      refine J_iconst (pc := 20) (v := 0) dX11_tellsNothing_20 (by decide) ?_
      refine J_istore_n (pc := 21) dX11_tellsNothing_21 (by decide) rfl ?_
      refine J_hp (hup_id (a := 66) (x := .inl (0, 8, .inl (fun _ => 0))) (by first | rfl | assumption)).symm ?_
      have hloop22 : ∀ i, i ≤ 8 → J g mX11_tellsNothing 0 [] 22 [some (.ref 59), some (.int (ix i))] [] (hup (hup h 62 (.inl (0, 3, .inl (fillN (fun _ => 0) (fun _ => 0) 0 3)))) 66 (.inl (0, 8, .inl (fillN (fun _ => 0) (fun _ => -1) 0 i)))) 562 0 0 Q := by
        refine dn_ind ?_ (fun i hi ih => ?_)
        · refine J_iload_n (pc := 22) dX11_tellsNothing_22 rfl ?_
          refine J_bipush (pc := 23) (v := 8) dX11_tellsNothing_23 (by decide) ?_
          refine J_icmp_ge (pc := 25) (tgt := 41) dX11_tellsNothing_25 (by decide) (fun _ => ?_) (fun c9 => absurd (ix_ge (n := 8) rfl) c9)
          exact J_ret (pc := 41) rfl rfl dX11_tellsNothing_41 hQ
        · refine J_iload_n (pc := 22) dX11_tellsNothing_22 rfl ?_
          refine J_bipush (pc := 23) (v := 8) dX11_tellsNothing_23 (by decide) ?_
          refine J_icmp_ge (pc := 25) (tgt := 41) dX11_tellsNothing_25 (by decide) (fun c9 => absurd c9 (ix_lt (n := 8) rfl hi (by decide))) (fun _ => ?_)
          refine J_aload_n (pc := 28) dX11_tellsNothing_28 rfl ?_
          refine J_get (pc := 29) (fs := [.int 0, .int 0, .int 0, .int (-1), .int 0, .int 0, .int 0, .int 0, .int 0, .ref 60, .ref 61, .ref 62, .ref 63, .ref 64, .ref 65, .ref 66, .ref 67, .ref 68, .ref 79, .ref 90, .ref 99, .int 0, .int 0, .ref 108, .ref 269, .ref 430, .ref 441, .ref 452, .ref 453, .ref 454, .int 0, .ref 535, .ref 536, .ref 537, .ref 554, .int 0, .int 0, .int 0, .int 0, .int 0, .int 0, .int 0, .ref 558, .ref 559, .ref 560, .ref 561, .int 0, .int 0, .int 0]) (v := .ref 66) dX11_tellsNothing_29 kc11 fl_X11_32 (by first | rfl | assumption) rfl ?_
          refine J_iload_n (pc := 32) dX11_tellsNothing_32 rfl ?_
          refine J_iconst (pc := 33) (v := (-1)) dX11_tellsNothing_33 (by decide) ?_
          refine J_isR (pc := 34) dX11_tellsNothing_34 (ix_nI i) ⟨hi, by decide⟩ ?_
          refine J_iinc (pc := 35) (v := 1) dX11_tellsNothing_35 rfl (by decide) rfl ?_
          refine J_goto (pc := 38) (tgt := 22) dX11_tellsNothing_38 (by decide) ?_
          exact ih
      exact hloop22 0 (Nat.zero_le _)
    · refine J_iload_n (pc := 2) dX11_tellsNothing_2 rfl ?_
      refine J_iconst (pc := 3) (v := 3) dX11_tellsNothing_3 (by decide) ?_
      refine J_icmp_ge (pc := 4) (tgt := 20) dX11_tellsNothing_4 (by decide) (fun c9 => absurd c9 (ix_lt (n := 3) rfl hi (by decide))) (fun _ => ?_)
      refine J_aload_n (pc := 7) dX11_tellsNothing_7 rfl ?_
      refine J_get (pc := 8) (fs := [.int 0, .int 0, .int 0, .int (-1), .int 0, .int 0, .int 0, .int 0, .int 0, .ref 60, .ref 61, .ref 62, .ref 63, .ref 64, .ref 65, .ref 66, .ref 67, .ref 68, .ref 79, .ref 90, .ref 99, .int 0, .int 0, .ref 108, .ref 269, .ref 430, .ref 441, .ref 452, .ref 453, .ref 454, .int 0, .ref 535, .ref 536, .ref 537, .ref 554, .int 0, .int 0, .int 0, .int 0, .int 0, .int 0, .int 0, .ref 558, .ref 559, .ref 560, .ref 561, .int 0, .int 0, .int 0]) (v := .ref 62) dX11_tellsNothing_8 kc11 fl_X11_20 (by first | rfl | assumption) rfl ?_
      refine J_iload_n (pc := 11) dX11_tellsNothing_11 rfl ?_
      refine J_iconst (pc := 12) (v := 0) dX11_tellsNothing_12 (by decide) ?_
      refine J_isR (pc := 13) dX11_tellsNothing_13 (ix_nI i) ⟨hi, by decide⟩ ?_
      refine J_iinc (pc := 14) (v := 1) dX11_tellsNothing_14 rfl (by decide) rfl ?_
      refine J_goto (pc := 17) (tgt := 2) dX11_tellsNothing_17 (by decide) ?_
      exact ih
  exact hloop2 0 (Nat.zero_le _)
def kX11l68  (h : AH) : AH := h
set_option maxRecDepth 4000 in
theorem nX11l68 {g : Gp} {h : AH}   : NT g mX11_lays 0 0 0 [.ref 68, .ref 79, .int 0] h 562 (fun o h1 z1 => o = .inl none ∧ h1 = kX11l68 h ∧ z1 = 562) := by
  refine NT_of_CT (fun _ _ _ q => by cases q.1) (CT_of_J ⟨rfl, rfl⟩ (Nat.le_of_ble_eq_true rfl) (J_forget (lsp_at 5 _) (jq (fun Q hQ => ?_))))
  refine J_iconst (pc := 0) (v := 0) dX11_lays_0 (by decide) ?_
  refine J_istore_n (pc := 1) dX11_lays_1 (by decide) rfl ?_
  refine J_iload_n (pc := 2) dX11_lays_2 rfl ?_
  refine J_iload_n (pc := 3) dX11_lays_3 rfl ?_
  refine J_icmp_ge (pc := 4) (tgt := 43) dX11_lays_4 (by decide) (fun _ => ?_) (fun c9 => absurd c9 (by decide))
  exact J_ret (pc := 43) rfl rfl dX11_lays_43 hQ
def kX11l90  (h : AH) : AH := h
set_option maxRecDepth 4000 in
theorem nX11l90 {g : Gp} {h : AH}   : NT g mX11_lays 0 0 0 [.ref 90, .ref 99, .int 0] h 562 (fun o h1 z1 => o = .inl none ∧ h1 = kX11l90 h ∧ z1 = 562) := by
  refine NT_of_CT (fun _ _ _ q => by cases q.1) (CT_of_J ⟨rfl, rfl⟩ (Nat.le_of_ble_eq_true rfl) (J_forget (lsp_at 5 _) (jq (fun Q hQ => ?_))))
  refine J_iconst (pc := 0) (v := 0) dX11_lays_0 (by decide) ?_
  refine J_istore_n (pc := 1) dX11_lays_1 (by decide) rfl ?_
  refine J_iload_n (pc := 2) dX11_lays_2 rfl ?_
  refine J_iload_n (pc := 3) dX11_lays_3 rfl ?_
  refine J_icmp_ge (pc := 4) (tgt := 43) dX11_lays_4 (by decide) (fun _ => ?_) (fun c9 => absurd c9 (by decide))
  exact J_ret (pc := 43) rfl rfl dX11_lays_43 hQ
def kX11b  (h : AH) : AH := (hup (hup (hup (hup (hup (hup (hup (hup (kX11l90 (kX11l68 (hup (hup (hup h 63 (.inl (0, 3, .inl (fillN (fun _ => 0) (fillN (fun _ => 0) (fun _ => 0) 0 3) 0 3)))) 65 (.inl (0, 8, .inl (fillN (fun _ => 0) (fun _ => 0) 0 8)))) 67 (.inl (0, 8, .inl (fillN (fun _ => 0) (fillN (fun _ => 0) (fun _ => -1) 0 8) 0 8)))))) 535 (.inl (0, 45, .inl (fillN (fun _ => 0) (fun _ => 0) 0 45)))) 535 (.inl (0, 45, .inl (fillN (fillN (fun _ => 0) (fun _ => 0) 0 45) (fun _ => -1) 16 10)))) 535 (.inl (0, 45, .inl (fillN (fillN (fillN (fun _ => 0) (fun _ => 0) 0 45) (fun _ => -1) 16 10) (fun _ => -1) 36 8)))) 59 (.inr (11, [.int 0, .int 0, .int 0, .int (-1), .int 0, .int 0, .int 0, .int 0, .int 0, .ref 60, .ref 61, .ref 62, .ref 63, .ref 64, .ref 65, .ref 66, .ref 67, .ref 68, .ref 79, .ref 90, .ref 99, .int 0, .int 0, .ref 108, .ref 269, .ref 430, .ref 441, .ref 452, .ref 453, .ref 454, .int 0, .ref 535, .ref 536, .ref 537, .ref 554, .int 0, .int 0, .int 0, .int 0, .int 0, .int 0, .int 0, .ref 558, .ref 559, .ref 560, .ref 561, .int 0, .int 0, .int 0].set 21 (.int 0)))) 59 (.inr (11, [.int 0, .int 0, .int 0, .int (-1), .int 0, .int 0, .int 0, .int 0, .int 0, .ref 60, .ref 61, .ref 62, .ref 63, .ref 64, .ref 65, .ref 66, .ref 67, .ref 68, .ref 79, .ref 90, .ref 99, .int 0, .int 0, .ref 108, .ref 269, .ref 430, .ref 441, .ref 452, .ref 453, .ref 454, .int 0, .ref 535, .ref 536, .ref 537, .ref 554, .int 0, .int 0, .int 0, .int 0, .int 0, .int 0, .int 0, .ref 558, .ref 559, .ref 560, .ref 561, .int 0, .int 0, .int 0].set 35 (.int 0)))) 59 (.inr (11, [.int 0, .int 0, .int 0, .int (-1), .int 0, .int 0, .int 0, .int 0, .int 0, .ref 60, .ref 61, .ref 62, .ref 63, .ref 64, .ref 65, .ref 66, .ref 67, .ref 68, .ref 79, .ref 90, .ref 99, .int 0, .int 0, .ref 108, .ref 269, .ref 430, .ref 441, .ref 452, .ref 453, .ref 454, .int 0, .ref 535, .ref 536, .ref 537, .ref 554, .int 0, .int 0, .int 0, .int 0, .int 0, .int 0, .int 0, .ref 558, .ref 559, .ref 560, .ref 561, .int 0, .int 0, .int 0].set 36 (.int 0)))) 59 (.inr (11, [.int 0, .int 0, .int 0, .int (-1), .int 0, .int 0, .int 0, .int 0, .int 0, .ref 60, .ref 61, .ref 62, .ref 63, .ref 64, .ref 65, .ref 66, .ref 67, .ref 68, .ref 79, .ref 90, .ref 99, .int 0, .int 0, .ref 108, .ref 269, .ref 430, .ref 441, .ref 452, .ref 453, .ref 454, .int 0, .ref 535, .ref 536, .ref 537, .ref 554, .int 0, .int 0, .int 0, .int 0, .int 0, .int 0, .int 0, .ref 558, .ref 559, .ref 560, .ref 561, .int 0, .int 0, .int 0].set 37 (.int 0)))) 59 (.inr (11, [.int 0, .int 0, .int 0, .int (-1), .int 0, .int 0, .int 0, .int 0, .int 0, .ref 60, .ref 61, .ref 62, .ref 63, .ref 64, .ref 65, .ref 66, .ref 67, .ref 68, .ref 79, .ref 90, .ref 99, .int 0, .int 0, .ref 108, .ref 269, .ref 430, .ref 441, .ref 452, .ref 453, .ref 454, .int 0, .ref 535, .ref 536, .ref 537, .ref 554, .int 0, .int 0, .int 0, .int 0, .int 0, .int 0, .int 0, .ref 558, .ref 559, .ref 560, .ref 561, .int 0, .int 0, .int 0].set 38 (.int 0))))
set_option maxRecDepth 4000 in
theorem nX11b {g : Gp} {h : AH}  (a59 : h 59 = some (.inr (11, [.int 0, .int 0, .int 0, .int (-1), .int 0, .int 0, .int 0, .int 0, .int 0, .ref 60, .ref 61, .ref 62, .ref 63, .ref 64, .ref 65, .ref 66, .ref 67, .ref 68, .ref 79, .ref 90, .ref 99, .int 0, .int 0, .ref 108, .ref 269, .ref 430, .ref 441, .ref 452, .ref 453, .ref 454, .int 0, .ref 535, .ref 536, .ref 537, .ref 554, .int 0, .int 0, .int 0, .int 0, .int 0, .int 0, .int 0, .ref 558, .ref 559, .ref 560, .ref 561, .int 0, .int 0, .int 0]))) (a62 : h 62 = some (.inl (0, 3, .inl (fillN (fun _ => 0) (fun _ => 0) 0 3)))) (a63 : h 63 = some (.inl (0, 3, .inl (fun _ => 0)))) (a64 : h 64 = some (.inl (0, 8, .inl (fun _ => 0)))) (a65 : h 65 = some (.inl (0, 8, .inl (fun _ => 0)))) (a66 : h 66 = some (.inl (0, 8, .inl (fillN (fun _ => 0) (fun _ => -1) 0 8)))) (a67 : h 67 = some (.inl (0, 8, .inl (fun _ => 0)))) (a535 : h 535 = some (.inl (0, 45, .inl (fun _ => 0)))) : NT g mX11_beginsAnew 1 0 0 [.ref 59] h 562 (fun o h1 z1 => o = .inl none ∧ h1 = kX11b h ∧ z1 = 562) := by
  refine NT_of_CT (fun _ _ _ q => by cases q.1) (CT_of_J ⟨rfl, rfl⟩ (Nat.le_of_ble_eq_true rfl) (J_forget (lsp_at 2 _) (jq (fun Q hQ => ?_))))
  refine J_iconst (pc := 0) (v := 0) dX11_beginsAnew_0 (by decide) ?_
  refine J_istore_n (pc := 1) dX11_beginsAnew_1 (by decide) rfl ?_
  refine J_hp (hup_id (a := 63) (x := .inl (0, 3, .inl (fun _ => 0))) (by first | rfl | assumption)).symm ?_
  have hloop2 : ∀ i, i ≤ 3 → J g mX11_beginsAnew 1 [] 2 [some (.ref 59), some (.int (ix i))] [] (hup h 63 (.inl (0, 3, .inl (fillN (fun _ => 0) (fillN (fun _ => 0) (fun _ => 0) 0 3) 0 i)))) 562 0 0 Q := by
    refine dn_ind ?_ (fun i hi ih => ?_)
    · refine J_iload_n (pc := 2) dX11_beginsAnew_2 rfl ?_
      refine J_iconst (pc := 3) (v := 3) dX11_beginsAnew_3 (by decide) ?_
      refine J_icmp_ge (pc := 4) (tgt := 25) dX11_beginsAnew_4 (by decide) (fun _ => ?_) (fun c9 => absurd (ix_ge (n := 3) rfl) c9)
      refine J_iconst (pc := 25) (v := 0) dX11_beginsAnew_25 (by decide) ?_
      refine J_istore_n (pc := 26) dX11_beginsAnew_26 (by decide) rfl ?_
      refine J_hp (hup_id (a := 65) (x := .inl (0, 8, .inl (fun _ => 0))) (by first | rfl | assumption)).symm ?_
      refine J_hp (hup_id (a := 67) (x := .inl (0, 8, .inl (fun _ => 0))) (by first | rfl | assumption)).symm ?_
      have hloop27 : ∀ i, i ≤ 8 → J g mX11_beginsAnew 1 [] 27 [some (.ref 59), some (.int (ix i))] [] (hup (hup (hup h 63 (.inl (0, 3, .inl (fillN (fun _ => 0) (fillN (fun _ => 0) (fun _ => 0) 0 3) 0 3)))) 65 (.inl (0, 8, .inl (fillN (fun _ => 0) (fun _ => 0) 0 i)))) 67 (.inl (0, 8, .inl (fillN (fun _ => 0) (fillN (fun _ => 0) (fun _ => -1) 0 8) 0 i)))) 562 0 0 Q := by
        refine dn_ind ?_ (fun i hi ih => ?_)
        · refine J_iload_n (pc := 27) dX11_beginsAnew_27 rfl ?_
          refine J_bipush (pc := 28) (v := 8) dX11_beginsAnew_28 (by decide) ?_
          refine J_icmp_ge (pc := 30) (tgt := 63) dX11_beginsAnew_30 (by decide) (fun _ => ?_) (fun c9 => absurd (ix_ge (n := 8) rfl) c9)
          refine J_aload_n (pc := 63) dX11_beginsAnew_63 rfl ?_
          refine J_get (pc := 64) (fs := [.int 0, .int 0, .int 0, .int (-1), .int 0, .int 0, .int 0, .int 0, .int 0, .ref 60, .ref 61, .ref 62, .ref 63, .ref 64, .ref 65, .ref 66, .ref 67, .ref 68, .ref 79, .ref 90, .ref 99, .int 0, .int 0, .ref 108, .ref 269, .ref 430, .ref 441, .ref 452, .ref 453, .ref 454, .int 0, .ref 535, .ref 536, .ref 537, .ref 554, .int 0, .int 0, .int 0, .int 0, .int 0, .int 0, .int 0, .ref 558, .ref 559, .ref 560, .ref 561, .int 0, .int 0, .int 0]) (v := .ref 68) dX11_beginsAnew_64 kc11 fl_X11_40 (by first | rfl | assumption) rfl ?_
          refine J_aload_n (pc := 67) dX11_beginsAnew_67 rfl ?_
          refine J_get (pc := 68) (fs := [.int 0, .int 0, .int 0, .int (-1), .int 0, .int 0, .int 0, .int 0, .int 0, .ref 60, .ref 61, .ref 62, .ref 63, .ref 64, .ref 65, .ref 66, .ref 67, .ref 68, .ref 79, .ref 90, .ref 99, .int 0, .int 0, .ref 108, .ref 269, .ref 430, .ref 441, .ref 452, .ref 453, .ref 454, .int 0, .ref 535, .ref 536, .ref 537, .ref 554, .int 0, .int 0, .int 0, .int 0, .int 0, .int 0, .int 0, .ref 558, .ref 559, .ref 560, .ref 561, .int 0, .int 0, .int 0]) (v := .ref 79) dX11_beginsAnew_68 kc11 fl_X11_43 (by first | rfl | assumption) rfl ?_
          refine J_aload_n (pc := 71) dX11_beginsAnew_71 rfl ?_
          refine J_get (pc := 72) (fs := [.int 0, .int 0, .int 0, .int (-1), .int 0, .int 0, .int 0, .int 0, .int 0, .ref 60, .ref 61, .ref 62, .ref 63, .ref 64, .ref 65, .ref 66, .ref 67, .ref 68, .ref 79, .ref 90, .ref 99, .int 0, .int 0, .ref 108, .ref 269, .ref 430, .ref 441, .ref 452, .ref 453, .ref 454, .int 0, .ref 535, .ref 536, .ref 537, .ref 554, .int 0, .int 0, .int 0, .int 0, .int 0, .int 0, .int 0, .ref 558, .ref 559, .ref 560, .ref 561, .int 0, .int 0, .int 0]) (v := .ref 63) dX11_beginsAnew_72 kc11 fl_X11_23 (by first | rfl | assumption) rfl ?_
          refine J_iconst (pc := 75) (v := 1) dX11_beginsAnew_75 (by decide) ?_
          refine J_iald (pc := 76) (n := 3) (f := (fillN (fun _ => 0) (fillN (fun _ => 0) (fun _ => 0) 0 3) 0 3)) dX11_beginsAnew_76 (by first | rfl | assumption) (vp_in_nI (n := 1) (N := 3) (by decide) (by decide)) ?_
          refine J_t1 (y := 0) (by decide) ?_
          refine J_cs (pc := 77) (N := mX11_lays) dX11_beginsAnew_77 ml_X11_196 cf_X11_lays cs_X11_lays (nX11l68 ) rfl rfl (Nat.le_of_ble_eq_true rfl) (by decide) (by decide) (by decide) (fun v9 h9 z9 q9 => ?_)
          obtain ⟨e9, rfl, rfl⟩ := q9
          cases e9
          refine J_aload_n (pc := 80) dX11_beginsAnew_80 rfl ?_
          refine J_get (pc := 81) (fs := [.int 0, .int 0, .int 0, .int (-1), .int 0, .int 0, .int 0, .int 0, .int 0, .ref 60, .ref 61, .ref 62, .ref 63, .ref 64, .ref 65, .ref 66, .ref 67, .ref 68, .ref 79, .ref 90, .ref 99, .int 0, .int 0, .ref 108, .ref 269, .ref 430, .ref 441, .ref 452, .ref 453, .ref 454, .int 0, .ref 535, .ref 536, .ref 537, .ref 554, .int 0, .int 0, .int 0, .int 0, .int 0, .int 0, .int 0, .ref 558, .ref 559, .ref 560, .ref 561, .int 0, .int 0, .int 0]) (v := .ref 90) dX11_beginsAnew_81 kc11 fl_X11_46 (by first | rfl | assumption) rfl ?_
          refine J_aload_n (pc := 84) dX11_beginsAnew_84 rfl ?_
          refine J_get (pc := 85) (fs := [.int 0, .int 0, .int 0, .int (-1), .int 0, .int 0, .int 0, .int 0, .int 0, .ref 60, .ref 61, .ref 62, .ref 63, .ref 64, .ref 65, .ref 66, .ref 67, .ref 68, .ref 79, .ref 90, .ref 99, .int 0, .int 0, .ref 108, .ref 269, .ref 430, .ref 441, .ref 452, .ref 453, .ref 454, .int 0, .ref 535, .ref 536, .ref 537, .ref 554, .int 0, .int 0, .int 0, .int 0, .int 0, .int 0, .int 0, .ref 558, .ref 559, .ref 560, .ref 561, .int 0, .int 0, .int 0]) (v := .ref 99) dX11_beginsAnew_85 kc11 fl_X11_49 (by first | rfl | assumption) rfl ?_
          refine J_aload_n (pc := 88) dX11_beginsAnew_88 rfl ?_
          refine J_get (pc := 89) (fs := [.int 0, .int 0, .int 0, .int (-1), .int 0, .int 0, .int 0, .int 0, .int 0, .ref 60, .ref 61, .ref 62, .ref 63, .ref 64, .ref 65, .ref 66, .ref 67, .ref 68, .ref 79, .ref 90, .ref 99, .int 0, .int 0, .ref 108, .ref 269, .ref 430, .ref 441, .ref 452, .ref 453, .ref 454, .int 0, .ref 535, .ref 536, .ref 537, .ref 554, .int 0, .int 0, .int 0, .int 0, .int 0, .int 0, .int 0, .ref 558, .ref 559, .ref 560, .ref 561, .int 0, .int 0, .int 0]) (v := .ref 63) dX11_beginsAnew_89 kc11 fl_X11_23 (by first | rfl | assumption) rfl ?_
          refine J_iconst (pc := 92) (v := 2) dX11_beginsAnew_92 (by decide) ?_
          refine J_iald (pc := 93) (n := 3) (f := (fillN (fun _ => 0) (fillN (fun _ => 0) (fun _ => 0) 0 3) 0 3)) dX11_beginsAnew_93 (by first | rfl | assumption) (vp_in_nI (n := 2) (N := 3) (by decide) (by decide)) ?_
          refine J_t1 (y := 0) (by decide) ?_
          refine J_cs (pc := 94) (N := mX11_lays) dX11_beginsAnew_94 ml_X11_196 cf_X11_lays cs_X11_lays (nX11l90 ) rfl rfl (Nat.le_of_ble_eq_true rfl) (by decide) (by decide) (by decide) (fun v9 h9 z9 q9 => ?_)
          obtain ⟨e9, rfl, rfl⟩ := q9
          cases e9
          refine J_iconst (pc := 97) (v := 0) dX11_beginsAnew_97 (by decide) ?_
          refine J_istore_n (pc := 98) dX11_beginsAnew_98 (by decide) rfl ?_
          refine J_hp (hup_id (a := 535) (x := .inl (0, 45, .inl (fun _ => 0))) (by first | rfl | assumption)).symm ?_
          have hloop99 : ∀ i, i ≤ 45 → J g mX11_beginsAnew 1 [] 99 [some (.ref 59), some (.int (ix i))] [] (hup (kX11l90 (kX11l68 (hup (hup (hup h 63 (.inl (0, 3, .inl (fillN (fun _ => 0) (fillN (fun _ => 0) (fun _ => 0) 0 3) 0 3)))) 65 (.inl (0, 8, .inl (fillN (fun _ => 0) (fun _ => 0) 0 8)))) 67 (.inl (0, 8, .inl (fillN (fun _ => 0) (fillN (fun _ => 0) (fun _ => -1) 0 8) 0 8)))))) 535 (.inl (0, 45, .inl (fillN (fun _ => 0) (fun _ => 0) 0 i)))) 562 0 0 Q := by
            refine dn_ind ?_ (fun i hi ih => ?_)
            · refine J_iload_n (pc := 99) dX11_beginsAnew_99 rfl ?_
              refine J_bipush (pc := 100) (v := 45) dX11_beginsAnew_100 (by decide) ?_
              refine J_icmp_ge (pc := 102) (tgt := 118) dX11_beginsAnew_102 (by decide) (fun _ => ?_) (fun c9 => absurd (ix_ge (n := 45) rfl) c9)
              refine J_iconst (pc := 118) (v := 0) dX11_beginsAnew_118 (by decide) ?_
              refine J_istore_n (pc := 119) dX11_beginsAnew_119 (by decide) rfl ?_
              refine J_hp (hup_id (a := 535) (x := .inl (0, 45, .inl (fillN (fun _ => 0) (fun _ => 0) 0 45))) (by first | rfl | assumption)).symm ?_
              have hloop120 : ∀ i, i ≤ 10 → J g mX11_beginsAnew 1 [] 120 [some (.ref 59), some (.int (ix i))] [] (hup (hup (kX11l90 (kX11l68 (hup (hup (hup h 63 (.inl (0, 3, .inl (fillN (fun _ => 0) (fillN (fun _ => 0) (fun _ => 0) 0 3) 0 3)))) 65 (.inl (0, 8, .inl (fillN (fun _ => 0) (fun _ => 0) 0 8)))) 67 (.inl (0, 8, .inl (fillN (fun _ => 0) (fillN (fun _ => 0) (fun _ => -1) 0 8) 0 8)))))) 535 (.inl (0, 45, .inl (fillN (fun _ => 0) (fun _ => 0) 0 45)))) 535 (.inl (0, 45, .inl (fillN (fillN (fun _ => 0) (fun _ => 0) 0 45) (fun _ => -1) 16 i)))) 562 0 0 Q := by
                refine dn_ind ?_ (fun i hi ih => ?_)
                · refine J_iload_n (pc := 120) dX11_beginsAnew_120 rfl ?_
                  refine J_bipush (pc := 121) (v := 10) dX11_beginsAnew_121 (by decide) ?_
                  refine J_icmp_ge (pc := 123) (tgt := 142) dX11_beginsAnew_123 (by decide) (fun _ => ?_) (fun c9 => absurd (ix_ge (n := 10) rfl) c9)
                  refine J_iconst (pc := 142) (v := 0) dX11_beginsAnew_142 (by decide) ?_
                  refine J_istore_n (pc := 143) dX11_beginsAnew_143 (by decide) rfl ?_
                  refine J_hp (hup_id (a := 535) (x := .inl (0, 45, .inl (fillN (fillN (fun _ => 0) (fun _ => 0) 0 45) (fun _ => -1) 16 10))) (by first | rfl | assumption)).symm ?_
                  have hloop144 : ∀ i, i ≤ 8 → J g mX11_beginsAnew 1 [] 144 [some (.ref 59), some (.int (ix i))] [] (hup (hup (hup (kX11l90 (kX11l68 (hup (hup (hup h 63 (.inl (0, 3, .inl (fillN (fun _ => 0) (fillN (fun _ => 0) (fun _ => 0) 0 3) 0 3)))) 65 (.inl (0, 8, .inl (fillN (fun _ => 0) (fun _ => 0) 0 8)))) 67 (.inl (0, 8, .inl (fillN (fun _ => 0) (fillN (fun _ => 0) (fun _ => -1) 0 8) 0 8)))))) 535 (.inl (0, 45, .inl (fillN (fun _ => 0) (fun _ => 0) 0 45)))) 535 (.inl (0, 45, .inl (fillN (fillN (fun _ => 0) (fun _ => 0) 0 45) (fun _ => -1) 16 10)))) 535 (.inl (0, 45, .inl (fillN (fillN (fillN (fun _ => 0) (fun _ => 0) 0 45) (fun _ => -1) 16 10) (fun _ => -1) 36 i)))) 562 0 0 Q := by
                    refine dn_ind ?_ (fun i hi ih => ?_)
                    · refine J_iload_n (pc := 144) dX11_beginsAnew_144 rfl ?_
                      refine J_bipush (pc := 145) (v := 8) dX11_beginsAnew_145 (by decide) ?_
                      refine J_icmp_ge (pc := 147) (tgt := 166) dX11_beginsAnew_147 (by decide) (fun _ => ?_) (fun c9 => absurd (ix_ge (n := 8) rfl) c9)
                      refine J_aload_n (pc := 166) dX11_beginsAnew_166 rfl ?_
                      refine J_iconst (pc := 167) (v := 0) dX11_beginsAnew_167 (by decide) ?_
                      refine J_put (pc := 168) (fs := [.int 0, .int 0, .int 0, .int (-1), .int 0, .int 0, .int 0, .int 0, .int 0, .ref 60, .ref 61, .ref 62, .ref 63, .ref 64, .ref 65, .ref 66, .ref 67, .ref 68, .ref 79, .ref 90, .ref 99, .int 0, .int 0, .ref 108, .ref 269, .ref 430, .ref 441, .ref 452, .ref 453, .ref 454, .int 0, .ref 535, .ref 536, .ref 537, .ref 554, .int 0, .int 0, .int 0, .int 0, .int 0, .int 0, .int 0, .ref 558, .ref 559, .ref 560, .ref 561, .int 0, .int 0, .int 0]) (v := .int 0) dX11_beginsAnew_168 kc11 fl_X11_200 rfl (by first | rfl | assumption) (Nat.le_of_ble_eq_true rfl) rfl rfl ?_
                      refine J_aload_n (pc := 171) dX11_beginsAnew_171 rfl ?_
                      refine J_iconst (pc := 172) (v := 0) dX11_beginsAnew_172 (by decide) ?_
                      refine J_put (pc := 173) (fs := [.int 0, .int 0, .int 0, .int (-1), .int 0, .int 0, .int 0, .int 0, .int 0, .ref 60, .ref 61, .ref 62, .ref 63, .ref 64, .ref 65, .ref 66, .ref 67, .ref 68, .ref 79, .ref 90, .ref 99, .int 0, .int 0, .ref 108, .ref 269, .ref 430, .ref 441, .ref 452, .ref 453, .ref 454, .int 0, .ref 535, .ref 536, .ref 537, .ref 554, .int 0, .int 0, .int 0, .int 0, .int 0, .int 0, .int 0, .ref 558, .ref 559, .ref 560, .ref 561, .int 0, .int 0, .int 0]) (v := .int 0) dX11_beginsAnew_173 kc11 fl_X11_203 rfl (by first | rfl | assumption) (Nat.le_of_ble_eq_true rfl) rfl rfl ?_
                      refine J_aload_n (pc := 176) dX11_beginsAnew_176 rfl ?_
                      refine J_iconst (pc := 177) (v := 0) dX11_beginsAnew_177 (by decide) ?_
                      refine J_put (pc := 178) (fs := [.int 0, .int 0, .int 0, .int (-1), .int 0, .int 0, .int 0, .int 0, .int 0, .ref 60, .ref 61, .ref 62, .ref 63, .ref 64, .ref 65, .ref 66, .ref 67, .ref 68, .ref 79, .ref 90, .ref 99, .int 0, .int 0, .ref 108, .ref 269, .ref 430, .ref 441, .ref 452, .ref 453, .ref 454, .int 0, .ref 535, .ref 536, .ref 537, .ref 554, .int 0, .int 0, .int 0, .int 0, .int 0, .int 0, .int 0, .ref 558, .ref 559, .ref 560, .ref 561, .int 0, .int 0, .int 0]) (v := .int 0) dX11_beginsAnew_178 kc11 fl_X11_206 rfl (by first | rfl | assumption) (Nat.le_of_ble_eq_true rfl) rfl rfl ?_
                      refine J_aload_n (pc := 181) dX11_beginsAnew_181 rfl ?_
                      refine J_iconst (pc := 182) (v := 0) dX11_beginsAnew_182 (by decide) ?_
                      refine J_put (pc := 183) (fs := [.int 0, .int 0, .int 0, .int (-1), .int 0, .int 0, .int 0, .int 0, .int 0, .ref 60, .ref 61, .ref 62, .ref 63, .ref 64, .ref 65, .ref 66, .ref 67, .ref 68, .ref 79, .ref 90, .ref 99, .int 0, .int 0, .ref 108, .ref 269, .ref 430, .ref 441, .ref 452, .ref 453, .ref 454, .int 0, .ref 535, .ref 536, .ref 537, .ref 554, .int 0, .int 0, .int 0, .int 0, .int 0, .int 0, .int 0, .ref 558, .ref 559, .ref 560, .ref 561, .int 0, .int 0, .int 0]) (v := .int 0) dX11_beginsAnew_183 kc11 fl_X11_209 rfl (by first | rfl | assumption) (Nat.le_of_ble_eq_true rfl) rfl rfl ?_
                      refine J_aload_n (pc := 186) dX11_beginsAnew_186 rfl ?_
                      refine J_iconst (pc := 187) (v := 0) dX11_beginsAnew_187 (by decide) ?_
                      refine J_put (pc := 188) (fs := [.int 0, .int 0, .int 0, .int (-1), .int 0, .int 0, .int 0, .int 0, .int 0, .ref 60, .ref 61, .ref 62, .ref 63, .ref 64, .ref 65, .ref 66, .ref 67, .ref 68, .ref 79, .ref 90, .ref 99, .int 0, .int 0, .ref 108, .ref 269, .ref 430, .ref 441, .ref 452, .ref 453, .ref 454, .int 0, .ref 535, .ref 536, .ref 537, .ref 554, .int 0, .int 0, .int 0, .int 0, .int 0, .int 0, .int 0, .ref 558, .ref 559, .ref 560, .ref 561, .int 0, .int 0, .int 0]) (v := .int 0) dX11_beginsAnew_188 kc11 fl_X11_212 rfl (by first | rfl | assumption) (Nat.le_of_ble_eq_true rfl) rfl rfl ?_
                      exact J_ret (pc := 191) rfl rfl dX11_beginsAnew_191 hQ
                    · refine J_iload_n (pc := 144) dX11_beginsAnew_144 rfl ?_
                      refine J_bipush (pc := 145) (v := 8) dX11_beginsAnew_145 (by decide) ?_
                      refine J_icmp_ge (pc := 147) (tgt := 166) dX11_beginsAnew_147 (by decide) (fun c9 => absurd c9 (ix_lt (n := 8) rfl hi (by decide))) (fun _ => ?_)
                      refine J_aload_n (pc := 150) dX11_beginsAnew_150 rfl ?_
                      refine J_get (pc := 151) (fs := [.int 0, .int 0, .int 0, .int (-1), .int 0, .int 0, .int 0, .int 0, .int 0, .ref 60, .ref 61, .ref 62, .ref 63, .ref 64, .ref 65, .ref 66, .ref 67, .ref 68, .ref 79, .ref 90, .ref 99, .int 0, .int 0, .ref 108, .ref 269, .ref 430, .ref 441, .ref 452, .ref 453, .ref 454, .int 0, .ref 535, .ref 536, .ref 537, .ref 554, .int 0, .int 0, .int 0, .int 0, .int 0, .int 0, .int 0, .ref 558, .ref 559, .ref 560, .ref 561, .int 0, .int 0, .int 0]) (v := .ref 535) dX11_beginsAnew_151 kc11 fl_X11_73 (by first | rfl | assumption) rfl ?_
                      refine J_bipush (pc := 154) (v := 36) dX11_beginsAnew_154 (by decide) ?_
                      refine J_iload_n (pc := 156) dX11_beginsAnew_156 rfl ?_
                      refine J_iadd (pc := 157) dX11_beginsAnew_157 ?_
                      refine J_iconst (pc := 158) (v := (-1)) dX11_beginsAnew_158 (by decide) ?_
                      refine J_isR (pc := 159) dX11_beginsAnew_159 (by rw [ix_nI]; exact nI_add 36 _) ⟨by omega, by decide⟩ ?_
                      refine J_iinc (pc := 160) (v := 1) dX11_beginsAnew_160 rfl (by decide) rfl ?_
                      refine J_goto (pc := 163) (tgt := 144) dX11_beginsAnew_163 (by decide) ?_
                      exact ih
                  exact hloop144 0 (Nat.zero_le _)
                · refine J_iload_n (pc := 120) dX11_beginsAnew_120 rfl ?_
                  refine J_bipush (pc := 121) (v := 10) dX11_beginsAnew_121 (by decide) ?_
                  refine J_icmp_ge (pc := 123) (tgt := 142) dX11_beginsAnew_123 (by decide) (fun c9 => absurd c9 (ix_lt (n := 10) rfl hi (by decide))) (fun _ => ?_)
                  refine J_aload_n (pc := 126) dX11_beginsAnew_126 rfl ?_
                  refine J_get (pc := 127) (fs := [.int 0, .int 0, .int 0, .int (-1), .int 0, .int 0, .int 0, .int 0, .int 0, .ref 60, .ref 61, .ref 62, .ref 63, .ref 64, .ref 65, .ref 66, .ref 67, .ref 68, .ref 79, .ref 90, .ref 99, .int 0, .int 0, .ref 108, .ref 269, .ref 430, .ref 441, .ref 452, .ref 453, .ref 454, .int 0, .ref 535, .ref 536, .ref 537, .ref 554, .int 0, .int 0, .int 0, .int 0, .int 0, .int 0, .int 0, .ref 558, .ref 559, .ref 560, .ref 561, .int 0, .int 0, .int 0]) (v := .ref 535) dX11_beginsAnew_127 kc11 fl_X11_73 (by first | rfl | assumption) rfl ?_
                  refine J_bipush (pc := 130) (v := 16) dX11_beginsAnew_130 (by decide) ?_
                  refine J_iload_n (pc := 132) dX11_beginsAnew_132 rfl ?_
                  refine J_iadd (pc := 133) dX11_beginsAnew_133 ?_
                  refine J_iconst (pc := 134) (v := (-1)) dX11_beginsAnew_134 (by decide) ?_
                  refine J_isR (pc := 135) dX11_beginsAnew_135 (by rw [ix_nI]; exact nI_add 16 _) ⟨by omega, by decide⟩ ?_
                  refine J_iinc (pc := 136) (v := 1) dX11_beginsAnew_136 rfl (by decide) rfl ?_
                  refine J_goto (pc := 139) (tgt := 120) dX11_beginsAnew_139 (by decide) ?_
                  exact ih
              exact hloop120 0 (Nat.zero_le _)
            · refine J_iload_n (pc := 99) dX11_beginsAnew_99 rfl ?_
              refine J_bipush (pc := 100) (v := 45) dX11_beginsAnew_100 (by decide) ?_
              refine J_icmp_ge (pc := 102) (tgt := 118) dX11_beginsAnew_102 (by decide) (fun c9 => absurd c9 (ix_lt (n := 45) rfl hi (by decide))) (fun _ => ?_)
              refine J_aload_n (pc := 105) dX11_beginsAnew_105 rfl ?_
              refine J_get (pc := 106) (fs := [.int 0, .int 0, .int 0, .int (-1), .int 0, .int 0, .int 0, .int 0, .int 0, .ref 60, .ref 61, .ref 62, .ref 63, .ref 64, .ref 65, .ref 66, .ref 67, .ref 68, .ref 79, .ref 90, .ref 99, .int 0, .int 0, .ref 108, .ref 269, .ref 430, .ref 441, .ref 452, .ref 453, .ref 454, .int 0, .ref 535, .ref 536, .ref 537, .ref 554, .int 0, .int 0, .int 0, .int 0, .int 0, .int 0, .int 0, .ref 558, .ref 559, .ref 560, .ref 561, .int 0, .int 0, .int 0]) (v := .ref 535) dX11_beginsAnew_106 kc11 fl_X11_73 (by first | rfl | assumption) rfl ?_
              refine J_iload_n (pc := 109) dX11_beginsAnew_109 rfl ?_
              refine J_iconst (pc := 110) (v := 0) dX11_beginsAnew_110 (by decide) ?_
              refine J_isR (pc := 111) dX11_beginsAnew_111 (ix_nI i) ⟨hi, by decide⟩ ?_
              refine J_iinc (pc := 112) (v := 1) dX11_beginsAnew_112 rfl (by decide) rfl ?_
              refine J_goto (pc := 115) (tgt := 99) dX11_beginsAnew_115 (by decide) ?_
              exact ih
          exact hloop99 0 (Nat.zero_le _)
        · refine J_iload_n (pc := 27) dX11_beginsAnew_27 rfl ?_
          refine J_bipush (pc := 28) (v := 8) dX11_beginsAnew_28 (by decide) ?_
          refine J_icmp_ge (pc := 30) (tgt := 63) dX11_beginsAnew_30 (by decide) (fun c9 => absurd c9 (ix_lt (n := 8) rfl hi (by decide))) (fun _ => ?_)
          refine J_aload_n (pc := 33) dX11_beginsAnew_33 rfl ?_
          refine J_get (pc := 34) (fs := [.int 0, .int 0, .int 0, .int (-1), .int 0, .int 0, .int 0, .int 0, .int 0, .ref 60, .ref 61, .ref 62, .ref 63, .ref 64, .ref 65, .ref 66, .ref 67, .ref 68, .ref 79, .ref 90, .ref 99, .int 0, .int 0, .ref 108, .ref 269, .ref 430, .ref 441, .ref 452, .ref 453, .ref 454, .int 0, .ref 535, .ref 536, .ref 537, .ref 554, .int 0, .int 0, .int 0, .int 0, .int 0, .int 0, .int 0, .ref 558, .ref 559, .ref 560, .ref 561, .int 0, .int 0, .int 0]) (v := .ref 65) dX11_beginsAnew_34 kc11 fl_X11_29 (by first | rfl | assumption) rfl ?_
          refine J_iload_n (pc := 37) dX11_beginsAnew_37 rfl ?_
          refine J_aload_n (pc := 38) dX11_beginsAnew_38 rfl ?_
          refine J_get (pc := 39) (fs := [.int 0, .int 0, .int 0, .int (-1), .int 0, .int 0, .int 0, .int 0, .int 0, .ref 60, .ref 61, .ref 62, .ref 63, .ref 64, .ref 65, .ref 66, .ref 67, .ref 68, .ref 79, .ref 90, .ref 99, .int 0, .int 0, .ref 108, .ref 269, .ref 430, .ref 441, .ref 452, .ref 453, .ref 454, .int 0, .ref 535, .ref 536, .ref 537, .ref 554, .int 0, .int 0, .int 0, .int 0, .int 0, .int 0, .int 0, .ref 558, .ref 559, .ref 560, .ref 561, .int 0, .int 0, .int 0]) (v := .ref 64) dX11_beginsAnew_39 kc11 fl_X11_26 (by first | rfl | assumption) rfl ?_
          refine J_iload_n (pc := 42) dX11_beginsAnew_42 rfl ?_
          refine J_ilR (pc := 43) (a := 64) (n := 8) (f := (fun _ => 0)) dX11_beginsAnew_43 (by first | rfl | assumption) (ix_nI i) ⟨by omega, by decide⟩ ?_
          refine J_isR2 (pc := 44) dX11_beginsAnew_44 (by decide) (ix_nI i) ⟨hi, by decide⟩ ?_
          refine J_aload_n (pc := 45) dX11_beginsAnew_45 rfl ?_
          refine J_get (pc := 46) (fs := [.int 0, .int 0, .int 0, .int (-1), .int 0, .int 0, .int 0, .int 0, .int 0, .ref 60, .ref 61, .ref 62, .ref 63, .ref 64, .ref 65, .ref 66, .ref 67, .ref 68, .ref 79, .ref 90, .ref 99, .int 0, .int 0, .ref 108, .ref 269, .ref 430, .ref 441, .ref 452, .ref 453, .ref 454, .int 0, .ref 535, .ref 536, .ref 537, .ref 554, .int 0, .int 0, .int 0, .int 0, .int 0, .int 0, .int 0, .ref 558, .ref 559, .ref 560, .ref 561, .int 0, .int 0, .int 0]) (v := .ref 67) dX11_beginsAnew_46 kc11 fl_X11_35 (by first | rfl | assumption) rfl ?_
          refine J_iload_n (pc := 49) dX11_beginsAnew_49 rfl ?_
          refine J_aload_n (pc := 50) dX11_beginsAnew_50 rfl ?_
          refine J_get (pc := 51) (fs := [.int 0, .int 0, .int 0, .int (-1), .int 0, .int 0, .int 0, .int 0, .int 0, .ref 60, .ref 61, .ref 62, .ref 63, .ref 64, .ref 65, .ref 66, .ref 67, .ref 68, .ref 79, .ref 90, .ref 99, .int 0, .int 0, .ref 108, .ref 269, .ref 430, .ref 441, .ref 452, .ref 453, .ref 454, .int 0, .ref 535, .ref 536, .ref 537, .ref 554, .int 0, .int 0, .int 0, .int 0, .int 0, .int 0, .int 0, .ref 558, .ref 559, .ref 560, .ref 561, .int 0, .int 0, .int 0]) (v := .ref 66) dX11_beginsAnew_51 kc11 fl_X11_32 (by first | rfl | assumption) rfl ?_
          refine J_iload_n (pc := 54) dX11_beginsAnew_54 rfl ?_
          refine J_ilR (pc := 55) (a := 66) (n := 8) (f := (fillN (fun _ => 0) (fun _ => -1) 0 8)) dX11_beginsAnew_55 (by first | rfl | assumption) (ix_nI i) ⟨by omega, by decide⟩ ?_
          refine J_isR (pc := 56) dX11_beginsAnew_56 (ix_nI i) ⟨hi, by decide⟩ ?_
          refine J_iinc (pc := 57) (v := 1) dX11_beginsAnew_57 rfl (by decide) rfl ?_
          refine J_goto (pc := 60) (tgt := 27) dX11_beginsAnew_60 (by decide) ?_
          exact ih
      exact hloop27 0 (Nat.zero_le _)
    · refine J_iload_n (pc := 2) dX11_beginsAnew_2 rfl ?_
      refine J_iconst (pc := 3) (v := 3) dX11_beginsAnew_3 (by decide) ?_
      refine J_icmp_ge (pc := 4) (tgt := 25) dX11_beginsAnew_4 (by decide) (fun c9 => absurd c9 (ix_lt (n := 3) rfl hi (by decide))) (fun _ => ?_)
      refine J_aload_n (pc := 7) dX11_beginsAnew_7 rfl ?_
      refine J_get (pc := 8) (fs := [.int 0, .int 0, .int 0, .int (-1), .int 0, .int 0, .int 0, .int 0, .int 0, .ref 60, .ref 61, .ref 62, .ref 63, .ref 64, .ref 65, .ref 66, .ref 67, .ref 68, .ref 79, .ref 90, .ref 99, .int 0, .int 0, .ref 108, .ref 269, .ref 430, .ref 441, .ref 452, .ref 453, .ref 454, .int 0, .ref 535, .ref 536, .ref 537, .ref 554, .int 0, .int 0, .int 0, .int 0, .int 0, .int 0, .int 0, .ref 558, .ref 559, .ref 560, .ref 561, .int 0, .int 0, .int 0]) (v := .ref 63) dX11_beginsAnew_8 kc11 fl_X11_23 (by first | rfl | assumption) rfl ?_
      refine J_iload_n (pc := 11) dX11_beginsAnew_11 rfl ?_
      refine J_aload_n (pc := 12) dX11_beginsAnew_12 rfl ?_
      refine J_get (pc := 13) (fs := [.int 0, .int 0, .int 0, .int (-1), .int 0, .int 0, .int 0, .int 0, .int 0, .ref 60, .ref 61, .ref 62, .ref 63, .ref 64, .ref 65, .ref 66, .ref 67, .ref 68, .ref 79, .ref 90, .ref 99, .int 0, .int 0, .ref 108, .ref 269, .ref 430, .ref 441, .ref 452, .ref 453, .ref 454, .int 0, .ref 535, .ref 536, .ref 537, .ref 554, .int 0, .int 0, .int 0, .int 0, .int 0, .int 0, .int 0, .ref 558, .ref 559, .ref 560, .ref 561, .int 0, .int 0, .int 0]) (v := .ref 62) dX11_beginsAnew_13 kc11 fl_X11_20 (by first | rfl | assumption) rfl ?_
      refine J_iload_n (pc := 16) dX11_beginsAnew_16 rfl ?_
      refine J_ilR (pc := 17) (a := 62) (n := 3) (f := (fillN (fun _ => 0) (fun _ => 0) 0 3)) dX11_beginsAnew_17 (by first | rfl | assumption) (ix_nI i) ⟨by omega, by decide⟩ ?_
      refine J_isR (pc := 18) dX11_beginsAnew_18 (ix_nI i) ⟨hi, by decide⟩ ?_
      refine J_iinc (pc := 19) (v := 1) dX11_beginsAnew_19 rfl (by decide) rfl ?_
      refine J_goto (pc := 22) (tgt := 2) dX11_beginsAnew_22 (by decide) ?_
      exact ih
  exact hloop2 0 (Nat.zero_le _)
def kX11i  (h : AH) : AH := (kX11b (kX11t (hup (hup (hup (hup (hup (hup (hup (hup (hup (hmul (hup (hmul (hup (hup (hup (hup (hup (hmul (hup (hup (hup (hup (hup (hmul (hup (hmul (hup (hmul (hup (hmul (hup (hmul (hup (hmul (hup (hmul (hup (hmul (hup (hup (hup (hup (hup (hup (hup (hup (hup (hup (hup (hup (hup (hup (hup (hup (hup h 59 (.inr (11, [.int 0, .int 0, .int 0, .int 0, .int 0, .int 0, .int 0, .int 0, .int 0, .null, .null, .null, .null, .null, .null, .null, .null, .null, .null, .null, .null, .int 0, .int 0, .null, .null, .null, .null, .null, .null, .null, .int 0, .null, .null, .null, .null, .int 0, .int 0, .int 0, .int 0, .int 0, .int 0, .int 0, .null, .null, .null, .null, .int 0, .int 0, .int 0].set 3 (.int (-1))))) 60 (.inl (0, 600, .inl (fun _ => 0)))) 59 (.inr (11, [.int 0, .int 0, .int 0, .int (-1), .int 0, .int 0, .int 0, .int 0, .int 0, .null, .null, .null, .null, .null, .null, .null, .null, .null, .null, .null, .null, .int 0, .int 0, .null, .null, .null, .null, .null, .null, .null, .int 0, .null, .null, .null, .null, .int 0, .int 0, .int 0, .int 0, .int 0, .int 0, .int 0, .null, .null, .null, .null, .int 0, .int 0, .int 0].set 9 (.ref 60)))) 61 (.inl (0, 2, .inl (fun _ => 0)))) 59 (.inr (11, [.int 0, .int 0, .int 0, .int (-1), .int 0, .int 0, .int 0, .int 0, .int 0, .ref 60, .null, .null, .null, .null, .null, .null, .null, .null, .null, .null, .null, .int 0, .int 0, .null, .null, .null, .null, .null, .null, .null, .int 0, .null, .null, .null, .null, .int 0, .int 0, .int 0, .int 0, .int 0, .int 0, .int 0, .null, .null, .null, .null, .int 0, .int 0, .int 0].set 10 (.ref 61)))) 62 (.inl (0, 3, .inl (fun _ => 0)))) 59 (.inr (11, [.int 0, .int 0, .int 0, .int (-1), .int 0, .int 0, .int 0, .int 0, .int 0, .ref 60, .ref 61, .null, .null, .null, .null, .null, .null, .null, .null, .null, .null, .int 0, .int 0, .null, .null, .null, .null, .null, .null, .null, .int 0, .null, .null, .null, .null, .int 0, .int 0, .int 0, .int 0, .int 0, .int 0, .int 0, .null, .null, .null, .null, .int 0, .int 0, .int 0].set 11 (.ref 62)))) 63 (.inl (0, 3, .inl (fun _ => 0)))) 59 (.inr (11, [.int 0, .int 0, .int 0, .int (-1), .int 0, .int 0, .int 0, .int 0, .int 0, .ref 60, .ref 61, .ref 62, .null, .null, .null, .null, .null, .null, .null, .null, .null, .int 0, .int 0, .null, .null, .null, .null, .null, .null, .null, .int 0, .null, .null, .null, .null, .int 0, .int 0, .int 0, .int 0, .int 0, .int 0, .int 0, .null, .null, .null, .null, .int 0, .int 0, .int 0].set 12 (.ref 63)))) 64 (.inl (0, 8, .inl (fun _ => 0)))) 59 (.inr (11, [.int 0, .int 0, .int 0, .int (-1), .int 0, .int 0, .int 0, .int 0, .int 0, .ref 60, .ref 61, .ref 62, .ref 63, .null, .null, .null, .null, .null, .null, .null, .null, .int 0, .int 0, .null, .null, .null, .null, .null, .null, .null, .int 0, .null, .null, .null, .null, .int 0, .int 0, .int 0, .int 0, .int 0, .int 0, .int 0, .null, .null, .null, .null, .int 0, .int 0, .int 0].set 13 (.ref 64)))) 65 (.inl (0, 8, .inl (fun _ => 0)))) 59 (.inr (11, [.int 0, .int 0, .int 0, .int (-1), .int 0, .int 0, .int 0, .int 0, .int 0, .ref 60, .ref 61, .ref 62, .ref 63, .ref 64, .null, .null, .null, .null, .null, .null, .null, .int 0, .int 0, .null, .null, .null, .null, .null, .null, .null, .int 0, .null, .null, .null, .null, .int 0, .int 0, .int 0, .int 0, .int 0, .int 0, .int 0, .null, .null, .null, .null, .int 0, .int 0, .int 0].set 14 (.ref 65)))) 66 (.inl (0, 8, .inl (fun _ => 0)))) 59 (.inr (11, [.int 0, .int 0, .int 0, .int (-1), .int 0, .int 0, .int 0, .int 0, .int 0, .ref 60, .ref 61, .ref 62, .ref 63, .ref 64, .ref 65, .null, .null, .null, .null, .null, .null, .int 0, .int 0, .null, .null, .null, .null, .null, .null, .null, .int 0, .null, .null, .null, .null, .int 0, .int 0, .int 0, .int 0, .int 0, .int 0, .int 0, .null, .null, .null, .null, .int 0, .int 0, .int 0].set 15 (.ref 66)))) 67 (.inl (0, 8, .inl (fun _ => 0)))) 59 (.inr (11, [.int 0, .int 0, .int 0, .int (-1), .int 0, .int 0, .int 0, .int 0, .int 0, .ref 60, .ref 61, .ref 62, .ref 63, .ref 64, .ref 65, .ref 66, .null, .null, .null, .null, .null, .int 0, .int 0, .null, .null, .null, .null, .null, .null, .null, .int 0, .null, .null, .null, .null, .int 0, .int 0, .int 0, .int 0, .int 0, .int 0, .int 0, .null, .null, .null, .null, .int 0, .int 0, .int 0].set 16 (.ref 67)))) 68 10 3) 59 (.inr (11, [.int 0, .int 0, .int 0, .int (-1), .int 0, .int 0, .int 0, .int 0, .int 0, .ref 60, .ref 61, .ref 62, .ref 63, .ref 64, .ref 65, .ref 66, .ref 67, .null, .null, .null, .null, .int 0, .int 0, .null, .null, .null, .null, .null, .null, .null, .int 0, .null, .null, .null, .null, .int 0, .int 0, .int 0, .int 0, .int 0, .int 0, .int 0, .null, .null, .null, .null, .int 0, .int 0, .int 0].set 17 (.ref 68)))) 79 10 3) 59 (.inr (11, [.int 0, .int 0, .int 0, .int (-1), .int 0, .int 0, .int 0, .int 0, .int 0, .ref 60, .ref 61, .ref 62, .ref 63, .ref 64, .ref 65, .ref 66, .ref 67, .ref 68, .null, .null, .null, .int 0, .int 0, .null, .null, .null, .null, .null, .null, .null, .int 0, .null, .null, .null, .null, .int 0, .int 0, .int 0, .int 0, .int 0, .int 0, .int 0, .null, .null, .null, .null, .int 0, .int 0, .int 0].set 18 (.ref 79)))) 90 8 2) 59 (.inr (11, [.int 0, .int 0, .int 0, .int (-1), .int 0, .int 0, .int 0, .int 0, .int 0, .ref 60, .ref 61, .ref 62, .ref 63, .ref 64, .ref 65, .ref 66, .ref 67, .ref 68, .ref 79, .null, .null, .int 0, .int 0, .null, .null, .null, .null, .null, .null, .null, .int 0, .null, .null, .null, .null, .int 0, .int 0, .int 0, .int 0, .int 0, .int 0, .int 0, .null, .null, .null, .null, .int 0, .int 0, .int 0].set 19 (.ref 90)))) 99 8 2) 59 (.inr (11, [.int 0, .int 0, .int 0, .int (-1), .int 0, .int 0, .int 0, .int 0, .int 0, .ref 60, .ref 61, .ref 62, .ref 63, .ref 64, .ref 65, .ref 66, .ref 67, .ref 68, .ref 79, .ref 90, .null, .int 0, .int 0, .null, .null, .null, .null, .null, .null, .null, .int 0, .null, .null, .null, .null, .int 0, .int 0, .int 0, .int 0, .int 0, .int 0, .int 0, .null, .null, .null, .null, .int 0, .int 0, .int 0].set 20 (.ref 99)))) 108 160 2) 59 (.inr (11, [.int 0, .int 0, .int 0, .int (-1), .int 0, .int 0, .int 0, .int 0, .int 0, .ref 60, .ref 61, .ref 62, .ref 63, .ref 64, .ref 65, .ref 66, .ref 67, .ref 68, .ref 79, .ref 90, .ref 99, .int 0, .int 0, .null, .null, .null, .null, .null, .null, .null, .int 0, .null, .null, .null, .null, .int 0, .int 0, .int 0, .int 0, .int 0, .int 0, .int 0, .null, .null, .null, .null, .int 0, .int 0, .int 0].set 23 (.ref 108)))) 269 160 2) 59 (.inr (11, [.int 0, .int 0, .int 0, .int (-1), .int 0, .int 0, .int 0, .int 0, .int 0, .ref 60, .ref 61, .ref 62, .ref 63, .ref 64, .ref 65, .ref 66, .ref 67, .ref 68, .ref 79, .ref 90, .ref 99, .int 0, .int 0, .ref 108, .null, .null, .null, .null, .null, .null, .int 0, .null, .null, .null, .null, .int 0, .int 0, .int 0, .int 0, .int 0, .int 0, .int 0, .null, .null, .null, .null, .int 0, .int 0, .int 0].set 24 (.ref 269)))) 430 10 2) 59 (.inr (11, [.int 0, .int 0, .int 0, .int (-1), .int 0, .int 0, .int 0, .int 0, .int 0, .ref 60, .ref 61, .ref 62, .ref 63, .ref 64, .ref 65, .ref 66, .ref 67, .ref 68, .ref 79, .ref 90, .ref 99, .int 0, .int 0, .ref 108, .ref 269, .null, .null, .null, .null, .null, .int 0, .null, .null, .null, .null, .int 0, .int 0, .int 0, .int 0, .int 0, .int 0, .int 0, .null, .null, .null, .null, .int 0, .int 0, .int 0].set 25 (.ref 430)))) 441 10 2) 59 (.inr (11, [.int 0, .int 0, .int 0, .int (-1), .int 0, .int 0, .int 0, .int 0, .int 0, .ref 60, .ref 61, .ref 62, .ref 63, .ref 64, .ref 65, .ref 66, .ref 67, .ref 68, .ref 79, .ref 90, .ref 99, .int 0, .int 0, .ref 108, .ref 269, .ref 430, .null, .null, .null, .null, .int 0, .null, .null, .null, .null, .int 0, .int 0, .int 0, .int 0, .int 0, .int 0, .int 0, .null, .null, .null, .null, .int 0, .int 0, .int 0].set 26 (.ref 441)))) 452 (.inl (0, 160, .inl (fun _ => 0)))) 59 (.inr (11, [.int 0, .int 0, .int 0, .int (-1), .int 0, .int 0, .int 0, .int 0, .int 0, .ref 60, .ref 61, .ref 62, .ref 63, .ref 64, .ref 65, .ref 66, .ref 67, .ref 68, .ref 79, .ref 90, .ref 99, .int 0, .int 0, .ref 108, .ref 269, .ref 430, .ref 441, .null, .null, .null, .int 0, .null, .null, .null, .null, .int 0, .int 0, .int 0, .int 0, .int 0, .int 0, .int 0, .null, .null, .null, .null, .int 0, .int 0, .int 0].set 27 (.ref 452)))) 453 (.inl (0, 8, .inl (fun _ => 0)))) 59 (.inr (11, [.int 0, .int 0, .int 0, .int (-1), .int 0, .int 0, .int 0, .int 0, .int 0, .ref 60, .ref 61, .ref 62, .ref 63, .ref 64, .ref 65, .ref 66, .ref 67, .ref 68, .ref 79, .ref 90, .ref 99, .int 0, .int 0, .ref 108, .ref 269, .ref 430, .ref 441, .ref 452, .null, .null, .int 0, .null, .null, .null, .null, .int 0, .int 0, .int 0, .int 0, .int 0, .int 0, .int 0, .null, .null, .null, .null, .int 0, .int 0, .int 0].set 28 (.ref 453)))) 454 80 4) 59 (.inr (11, [.int 0, .int 0, .int 0, .int (-1), .int 0, .int 0, .int 0, .int 0, .int 0, .ref 60, .ref 61, .ref 62, .ref 63, .ref 64, .ref 65, .ref 66, .ref 67, .ref 68, .ref 79, .ref 90, .ref 99, .int 0, .int 0, .ref 108, .ref 269, .ref 430, .ref 441, .ref 452, .ref 453, .null, .int 0, .null, .null, .null, .null, .int 0, .int 0, .int 0, .int 0, .int 0, .int 0, .int 0, .null, .null, .null, .null, .int 0, .int 0, .int 0].set 29 (.ref 454)))) 535 (.inl (0, 45, .inl (fun _ => 0)))) 59 (.inr (11, [.int 0, .int 0, .int 0, .int (-1), .int 0, .int 0, .int 0, .int 0, .int 0, .ref 60, .ref 61, .ref 62, .ref 63, .ref 64, .ref 65, .ref 66, .ref 67, .ref 68, .ref 79, .ref 90, .ref 99, .int 0, .int 0, .ref 108, .ref 269, .ref 430, .ref 441, .ref 452, .ref 453, .ref 454, .int 0, .null, .null, .null, .null, .int 0, .int 0, .int 0, .int 0, .int 0, .int 0, .int 0, .null, .null, .null, .null, .int 0, .int 0, .int 0].set 31 (.ref 535)))) 536 (.inl (0, 45, .inl (fun _ => 0)))) 59 (.inr (11, [.int 0, .int 0, .int 0, .int (-1), .int 0, .int 0, .int 0, .int 0, .int 0, .ref 60, .ref 61, .ref 62, .ref 63, .ref 64, .ref 65, .ref 66, .ref 67, .ref 68, .ref 79, .ref 90, .ref 99, .int 0, .int 0, .ref 108, .ref 269, .ref 430, .ref 441, .ref 452, .ref 453, .ref 454, .int 0, .ref 535, .null, .null, .null, .int 0, .int 0, .int 0, .int 0, .int 0, .int 0, .int 0, .null, .null, .null, .null, .int 0, .int 0, .int 0].set 32 (.ref 536)))) 537 16 45) 59 (.inr (11, [.int 0, .int 0, .int 0, .int (-1), .int 0, .int 0, .int 0, .int 0, .int 0, .ref 60, .ref 61, .ref 62, .ref 63, .ref 64, .ref 65, .ref 66, .ref 67, .ref 68, .ref 79, .ref 90, .ref 99, .int 0, .int 0, .ref 108, .ref 269, .ref 430, .ref 441, .ref 452, .ref 453, .ref 454, .int 0, .ref 535, .ref 536, .null, .null, .int 0, .int 0, .int 0, .int 0, .int 0, .int 0, .int 0, .null, .null, .null, .null, .int 0, .int 0, .int 0].set 33 (.ref 537)))) 554 3 766) 59 (.inr (11, [.int 0, .int 0, .int 0, .int (-1), .int 0, .int 0, .int 0, .int 0, .int 0, .ref 60, .ref 61, .ref 62, .ref 63, .ref 64, .ref 65, .ref 66, .ref 67, .ref 68, .ref 79, .ref 90, .ref 99, .int 0, .int 0, .ref 108, .ref 269, .ref 430, .ref 441, .ref 452, .ref 453, .ref 454, .int 0, .ref 535, .ref 536, .ref 537, .null, .int 0, .int 0, .int 0, .int 0, .int 0, .int 0, .int 0, .null, .null, .null, .null, .int 0, .int 0, .int 0].set 34 (.ref 554)))) 558 (.inl (0, 8, .inl (fun _ => 0)))) 59 (.inr (11, [.int 0, .int 0, .int 0, .int (-1), .int 0, .int 0, .int 0, .int 0, .int 0, .ref 60, .ref 61, .ref 62, .ref 63, .ref 64, .ref 65, .ref 66, .ref 67, .ref 68, .ref 79, .ref 90, .ref 99, .int 0, .int 0, .ref 108, .ref 269, .ref 430, .ref 441, .ref 452, .ref 453, .ref 454, .int 0, .ref 535, .ref 536, .ref 537, .ref 554, .int 0, .int 0, .int 0, .int 0, .int 0, .int 0, .int 0, .null, .null, .null, .null, .int 0, .int 0, .int 0].set 42 (.ref 558)))) 559 (.inl (0, 8, .inl (fun _ => 0)))) 59 (.inr (11, [.int 0, .int 0, .int 0, .int (-1), .int 0, .int 0, .int 0, .int 0, .int 0, .ref 60, .ref 61, .ref 62, .ref 63, .ref 64, .ref 65, .ref 66, .ref 67, .ref 68, .ref 79, .ref 90, .ref 99, .int 0, .int 0, .ref 108, .ref 269, .ref 430, .ref 441, .ref 452, .ref 453, .ref 454, .int 0, .ref 535, .ref 536, .ref 537, .ref 554, .int 0, .int 0, .int 0, .int 0, .int 0, .int 0, .int 0, .ref 558, .null, .null, .null, .int 0, .int 0, .int 0].set 43 (.ref 559)))) 560 (.inl (0, 8, .inl (fun _ => 0)))) 59 (.inr (11, [.int 0, .int 0, .int 0, .int (-1), .int 0, .int 0, .int 0, .int 0, .int 0, .ref 60, .ref 61, .ref 62, .ref 63, .ref 64, .ref 65, .ref 66, .ref 67, .ref 68, .ref 79, .ref 90, .ref 99, .int 0, .int 0, .ref 108, .ref 269, .ref 430, .ref 441, .ref 452, .ref 453, .ref 454, .int 0, .ref 535, .ref 536, .ref 537, .ref 554, .int 0, .int 0, .int 0, .int 0, .int 0, .int 0, .int 0, .ref 558, .ref 559, .null, .null, .int 0, .int 0, .int 0].set 44 (.ref 560)))) 561 (.inl (0, 9, .inl (fun _ => 0)))) 59 (.inr (11, [.int 0, .int 0, .int 0, .int (-1), .int 0, .int 0, .int 0, .int 0, .int 0, .ref 60, .ref 61, .ref 62, .ref 63, .ref 64, .ref 65, .ref 66, .ref 67, .ref 68, .ref 79, .ref 90, .ref 99, .int 0, .int 0, .ref 108, .ref 269, .ref 430, .ref 441, .ref 452, .ref 453, .ref 454, .int 0, .ref 535, .ref 536, .ref 537, .ref 554, .int 0, .int 0, .int 0, .int 0, .int 0, .int 0, .int 0, .ref 558, .ref 559, .ref 560, .null, .int 0, .int 0, .int 0].set 45 (.ref 561))))))
set_option maxRecDepth 4000 in
theorem nX11i {g : Gp} {h : AH}  (a59 : h 59 = some (.inr (11, [.int 0, .int 0, .int 0, .int 0, .int 0, .int 0, .int 0, .int 0, .int 0, .null, .null, .null, .null, .null, .null, .null, .null, .null, .null, .null, .null, .int 0, .int 0, .null, .null, .null, .null, .null, .null, .null, .int 0, .null, .null, .null, .null, .int 0, .int 0, .int 0, .int 0, .int 0, .int 0, .int 0, .null, .null, .null, .null, .int 0, .int 0, .int 0]))) : NT g mX11_init 2 502 5516 [.ref 59] h 60 (fun o h1 z1 => o = .inl none ∧ h1 = kX11i h ∧ z1 = 562) := by
  refine NT_of_CT (fun _ _ _ q => by cases q.1) (CT_of_J ⟨rfl, rfl⟩ (Nat.le_of_ble_eq_true rfl) (J_forget (lsp_at 1 _) (jq (fun Q hQ => ?_))))
  refine J_aload_n (pc := 0) dX11_init_0 rfl ?_
  refine J_obj (pc := 1) dX11_init_1 ⟨List.mem_of_getElem? (i := 1397) rfl, rfl⟩ oi_i oi_c (by decide) ?_
  refine J_aload_n (pc := 4) dX11_init_4 rfl ?_
  refine J_iconst (pc := 5) (v := (-1)) dX11_init_5 (by decide) ?_
  refine J_put (pc := 6) (fs := [.int 0, .int 0, .int 0, .int 0, .int 0, .int 0, .int 0, .int 0, .int 0, .null, .null, .null, .null, .null, .null, .null, .null, .null, .null, .null, .null, .int 0, .int 0, .null, .null, .null, .null, .null, .null, .null, .int 0, .null, .null, .null, .null, .int 0, .int 0, .int 0, .int 0, .int 0, .int 0, .int 0, .null, .null, .null, .null, .int 0, .int 0, .int 0]) (v := .int (-1)) dX11_init_6 kc11 fl_X11_9 rfl (by first | rfl | assumption) (Nat.le_of_ble_eq_true rfl) rfl rfl ?_
  refine J_aload_n (pc := 9) dX11_init_9 rfl ?_
  refine J_sipush (pc := 10) (v := 600) dX11_init_10 (by decide) ?_
  refine J_na (pc := 13) (t := 0) (n := 600) (z := .inl (fun _ => 0)) dX11_init_13 rfl (fun _ q => q) ac_i ⟨by decide, by decide⟩ (by decide) (fun _ => rfl) (by decide) (by decide) (by decide) ?_
  refine J_putF (pc := 15) (fs := [.int 0, .int 0, .int 0, .int (-1), .int 0, .int 0, .int 0, .int 0, .int 0, .null, .null, .null, .null, .null, .null, .null, .null, .null, .null, .null, .null, .int 0, .int 0, .null, .null, .null, .null, .null, .null, .null, .int 0, .null, .null, .null, .null, .int 0, .int 0, .int 0, .int 0, .int 0, .int 0, .int 0, .null, .null, .null, .null, .int 0, .int 0, .int 0]) (v := .ref 60) dX11_init_15 kc11 fl_X11_13 ⟨rfl, rfl, rfl⟩ (by first | rfl | assumption) (Nat.le_of_ble_eq_true rfl) rfl rfl ?_
  refine J_aload_n (pc := 18) dX11_init_18 rfl ?_
  refine J_iconst (pc := 19) (v := 2) dX11_init_19 (by decide) ?_
  refine J_na (pc := 20) (t := 0) (n := 2) (z := .inl (fun _ => 0)) dX11_init_20 rfl (fun _ q => q) ac_i ⟨by decide, by decide⟩ (by decide) (fun _ => rfl) (by decide) (by decide) (by decide) ?_
  refine J_putF (pc := 22) (fs := [.int 0, .int 0, .int 0, .int (-1), .int 0, .int 0, .int 0, .int 0, .int 0, .ref 60, .null, .null, .null, .null, .null, .null, .null, .null, .null, .null, .null, .int 0, .int 0, .null, .null, .null, .null, .null, .null, .null, .int 0, .null, .null, .null, .null, .int 0, .int 0, .int 0, .int 0, .int 0, .int 0, .int 0, .null, .null, .null, .null, .int 0, .int 0, .int 0]) (v := .ref 61) dX11_init_22 kc11 fl_X11_17 ⟨rfl, rfl, rfl⟩ (by first | rfl | assumption) (Nat.le_of_ble_eq_true rfl) rfl rfl ?_
  refine J_aload_n (pc := 25) dX11_init_25 rfl ?_
  refine J_iconst (pc := 26) (v := 3) dX11_init_26 (by decide) ?_
  refine J_na (pc := 27) (t := 0) (n := 3) (z := .inl (fun _ => 0)) dX11_init_27 rfl (fun _ q => q) ac_i ⟨by decide, by decide⟩ (by decide) (fun _ => rfl) (by decide) (by decide) (by decide) ?_
  refine J_putF (pc := 29) (fs := [.int 0, .int 0, .int 0, .int (-1), .int 0, .int 0, .int 0, .int 0, .int 0, .ref 60, .ref 61, .null, .null, .null, .null, .null, .null, .null, .null, .null, .null, .int 0, .int 0, .null, .null, .null, .null, .null, .null, .null, .int 0, .null, .null, .null, .null, .int 0, .int 0, .int 0, .int 0, .int 0, .int 0, .int 0, .null, .null, .null, .null, .int 0, .int 0, .int 0]) (v := .ref 62) dX11_init_29 kc11 fl_X11_20 ⟨rfl, rfl, rfl⟩ (by first | rfl | assumption) (Nat.le_of_ble_eq_true rfl) rfl rfl ?_
  refine J_aload_n (pc := 32) dX11_init_32 rfl ?_
  refine J_iconst (pc := 33) (v := 3) dX11_init_33 (by decide) ?_
  refine J_na (pc := 34) (t := 0) (n := 3) (z := .inl (fun _ => 0)) dX11_init_34 rfl (fun _ q => q) ac_i ⟨by decide, by decide⟩ (by decide) (fun _ => rfl) (by decide) (by decide) (by decide) ?_
  refine J_putF (pc := 36) (fs := [.int 0, .int 0, .int 0, .int (-1), .int 0, .int 0, .int 0, .int 0, .int 0, .ref 60, .ref 61, .ref 62, .null, .null, .null, .null, .null, .null, .null, .null, .null, .int 0, .int 0, .null, .null, .null, .null, .null, .null, .null, .int 0, .null, .null, .null, .null, .int 0, .int 0, .int 0, .int 0, .int 0, .int 0, .int 0, .null, .null, .null, .null, .int 0, .int 0, .int 0]) (v := .ref 63) dX11_init_36 kc11 fl_X11_23 ⟨rfl, rfl, rfl⟩ (by first | rfl | assumption) (Nat.le_of_ble_eq_true rfl) rfl rfl ?_
  refine J_aload_n (pc := 39) dX11_init_39 rfl ?_
  refine J_bipush (pc := 40) (v := 8) dX11_init_40 (by decide) ?_
  refine J_na (pc := 42) (t := 0) (n := 8) (z := .inl (fun _ => 0)) dX11_init_42 rfl (fun _ q => q) ac_i ⟨by decide, by decide⟩ (by decide) (fun _ => rfl) (by decide) (by decide) (by decide) ?_
  refine J_putF (pc := 44) (fs := [.int 0, .int 0, .int 0, .int (-1), .int 0, .int 0, .int 0, .int 0, .int 0, .ref 60, .ref 61, .ref 62, .ref 63, .null, .null, .null, .null, .null, .null, .null, .null, .int 0, .int 0, .null, .null, .null, .null, .null, .null, .null, .int 0, .null, .null, .null, .null, .int 0, .int 0, .int 0, .int 0, .int 0, .int 0, .int 0, .null, .null, .null, .null, .int 0, .int 0, .int 0]) (v := .ref 64) dX11_init_44 kc11 fl_X11_26 ⟨rfl, rfl, rfl⟩ (by first | rfl | assumption) (Nat.le_of_ble_eq_true rfl) rfl rfl ?_
  refine J_aload_n (pc := 47) dX11_init_47 rfl ?_
  refine J_bipush (pc := 48) (v := 8) dX11_init_48 (by decide) ?_
  refine J_na (pc := 50) (t := 0) (n := 8) (z := .inl (fun _ => 0)) dX11_init_50 rfl (fun _ q => q) ac_i ⟨by decide, by decide⟩ (by decide) (fun _ => rfl) (by decide) (by decide) (by decide) ?_
  refine J_putF (pc := 52) (fs := [.int 0, .int 0, .int 0, .int (-1), .int 0, .int 0, .int 0, .int 0, .int 0, .ref 60, .ref 61, .ref 62, .ref 63, .ref 64, .null, .null, .null, .null, .null, .null, .null, .int 0, .int 0, .null, .null, .null, .null, .null, .null, .null, .int 0, .null, .null, .null, .null, .int 0, .int 0, .int 0, .int 0, .int 0, .int 0, .int 0, .null, .null, .null, .null, .int 0, .int 0, .int 0]) (v := .ref 65) dX11_init_52 kc11 fl_X11_29 ⟨rfl, rfl, rfl⟩ (by first | rfl | assumption) (Nat.le_of_ble_eq_true rfl) rfl rfl ?_
  refine J_aload_n (pc := 55) dX11_init_55 rfl ?_
  refine J_bipush (pc := 56) (v := 8) dX11_init_56 (by decide) ?_
  refine J_na (pc := 58) (t := 0) (n := 8) (z := .inl (fun _ => 0)) dX11_init_58 rfl (fun _ q => q) ac_i ⟨by decide, by decide⟩ (by decide) (fun _ => rfl) (by decide) (by decide) (by decide) ?_
  refine J_putF (pc := 60) (fs := [.int 0, .int 0, .int 0, .int (-1), .int 0, .int 0, .int 0, .int 0, .int 0, .ref 60, .ref 61, .ref 62, .ref 63, .ref 64, .ref 65, .null, .null, .null, .null, .null, .null, .int 0, .int 0, .null, .null, .null, .null, .null, .null, .null, .int 0, .null, .null, .null, .null, .int 0, .int 0, .int 0, .int 0, .int 0, .int 0, .int 0, .null, .null, .null, .null, .int 0, .int 0, .int 0]) (v := .ref 66) dX11_init_60 kc11 fl_X11_32 ⟨rfl, rfl, rfl⟩ (by first | rfl | assumption) (Nat.le_of_ble_eq_true rfl) rfl rfl ?_
  refine J_aload_n (pc := 63) dX11_init_63 rfl ?_
  refine J_bipush (pc := 64) (v := 8) dX11_init_64 (by decide) ?_
  refine J_na (pc := 66) (t := 0) (n := 8) (z := .inl (fun _ => 0)) dX11_init_66 rfl (fun _ q => q) ac_i ⟨by decide, by decide⟩ (by decide) (fun _ => rfl) (by decide) (by decide) (by decide) ?_
  refine J_putF (pc := 68) (fs := [.int 0, .int 0, .int 0, .int (-1), .int 0, .int 0, .int 0, .int 0, .int 0, .ref 60, .ref 61, .ref 62, .ref 63, .ref 64, .ref 65, .ref 66, .null, .null, .null, .null, .null, .int 0, .int 0, .null, .null, .null, .null, .null, .null, .null, .int 0, .null, .null, .null, .null, .int 0, .int 0, .int 0, .int 0, .int 0, .int 0, .int 0, .null, .null, .null, .null, .int 0, .int 0, .int 0]) (v := .ref 67) dX11_init_68 kc11 fl_X11_35 ⟨rfl, rfl, rfl⟩ (by first | rfl | assumption) (Nat.le_of_ble_eq_true rfl) rfl rfl ?_
  refine J_aload_n (pc := 71) dX11_init_71 rfl ?_
  refine J_bipush (pc := 72) (v := 10) dX11_init_72 (by decide) ?_
  refine J_iconst (pc := 74) (v := 3) dX11_init_74 (by decide) ?_
  refine J_mna (pc := 75) (n := 10) (k := 3) dX11_init_75 ⟨List.mem_of_getElem? (i := 1398) rfl, rfl⟩ ac_i ⟨by decide, by decide⟩ ⟨by decide, by decide⟩ ⟨by decide, by decide⟩ (by decide) (by decide) (by decide) ?_
  refine J_putF (pc := 79) (fs := [.int 0, .int 0, .int 0, .int (-1), .int 0, .int 0, .int 0, .int 0, .int 0, .ref 60, .ref 61, .ref 62, .ref 63, .ref 64, .ref 65, .ref 66, .ref 67, .null, .null, .null, .null, .int 0, .int 0, .null, .null, .null, .null, .null, .null, .null, .int 0, .null, .null, .null, .null, .int 0, .int 0, .int 0, .int 0, .int 0, .int 0, .int 0, .null, .null, .null, .null, .int 0, .int 0, .int 0]) (v := .ref 68) dX11_init_79 kc11 fl_X11_40 ⟨rfl, rfl, rfl⟩ (by first | rfl | assumption) (Nat.le_of_ble_eq_true rfl) rfl rfl ?_
  refine J_aload_n (pc := 82) dX11_init_82 rfl ?_
  refine J_bipush (pc := 83) (v := 10) dX11_init_83 (by decide) ?_
  refine J_iconst (pc := 85) (v := 3) dX11_init_85 (by decide) ?_
  refine J_mna (pc := 86) (n := 10) (k := 3) dX11_init_86 ⟨List.mem_of_getElem? (i := 1398) rfl, rfl⟩ ac_i ⟨by decide, by decide⟩ ⟨by decide, by decide⟩ ⟨by decide, by decide⟩ (by decide) (by decide) (by decide) ?_
  refine J_putF (pc := 90) (fs := [.int 0, .int 0, .int 0, .int (-1), .int 0, .int 0, .int 0, .int 0, .int 0, .ref 60, .ref 61, .ref 62, .ref 63, .ref 64, .ref 65, .ref 66, .ref 67, .ref 68, .null, .null, .null, .int 0, .int 0, .null, .null, .null, .null, .null, .null, .null, .int 0, .null, .null, .null, .null, .int 0, .int 0, .int 0, .int 0, .int 0, .int 0, .int 0, .null, .null, .null, .null, .int 0, .int 0, .int 0]) (v := .ref 79) dX11_init_90 kc11 fl_X11_43 ⟨rfl, rfl, rfl⟩ (by first | rfl | assumption) (Nat.le_of_ble_eq_true rfl) rfl rfl ?_
  refine J_aload_n (pc := 93) dX11_init_93 rfl ?_
  refine J_bipush (pc := 94) (v := 8) dX11_init_94 (by decide) ?_
  refine J_iconst (pc := 96) (v := 2) dX11_init_96 (by decide) ?_
  refine J_mna (pc := 97) (n := 8) (k := 2) dX11_init_97 ⟨List.mem_of_getElem? (i := 1398) rfl, rfl⟩ ac_i ⟨by decide, by decide⟩ ⟨by decide, by decide⟩ ⟨by decide, by decide⟩ (by decide) (by decide) (by decide) ?_
  refine J_putF (pc := 101) (fs := [.int 0, .int 0, .int 0, .int (-1), .int 0, .int 0, .int 0, .int 0, .int 0, .ref 60, .ref 61, .ref 62, .ref 63, .ref 64, .ref 65, .ref 66, .ref 67, .ref 68, .ref 79, .null, .null, .int 0, .int 0, .null, .null, .null, .null, .null, .null, .null, .int 0, .null, .null, .null, .null, .int 0, .int 0, .int 0, .int 0, .int 0, .int 0, .int 0, .null, .null, .null, .null, .int 0, .int 0, .int 0]) (v := .ref 90) dX11_init_101 kc11 fl_X11_46 ⟨rfl, rfl, rfl⟩ (by first | rfl | assumption) (Nat.le_of_ble_eq_true rfl) rfl rfl ?_
  refine J_aload_n (pc := 104) dX11_init_104 rfl ?_
  refine J_bipush (pc := 105) (v := 8) dX11_init_105 (by decide) ?_
  refine J_iconst (pc := 107) (v := 2) dX11_init_107 (by decide) ?_
  refine J_mna (pc := 108) (n := 8) (k := 2) dX11_init_108 ⟨List.mem_of_getElem? (i := 1398) rfl, rfl⟩ ac_i ⟨by decide, by decide⟩ ⟨by decide, by decide⟩ ⟨by decide, by decide⟩ (by decide) (by decide) (by decide) ?_
  refine J_putF (pc := 112) (fs := [.int 0, .int 0, .int 0, .int (-1), .int 0, .int 0, .int 0, .int 0, .int 0, .ref 60, .ref 61, .ref 62, .ref 63, .ref 64, .ref 65, .ref 66, .ref 67, .ref 68, .ref 79, .ref 90, .null, .int 0, .int 0, .null, .null, .null, .null, .null, .null, .null, .int 0, .null, .null, .null, .null, .int 0, .int 0, .int 0, .int 0, .int 0, .int 0, .int 0, .null, .null, .null, .null, .int 0, .int 0, .int 0]) (v := .ref 99) dX11_init_112 kc11 fl_X11_49 ⟨rfl, rfl, rfl⟩ (by first | rfl | assumption) (Nat.le_of_ble_eq_true rfl) rfl rfl ?_
  refine J_aload_n (pc := 115) dX11_init_115 rfl ?_
  refine J_sipush (pc := 116) (v := 160) dX11_init_116 (by decide) ?_
  refine J_iconst (pc := 119) (v := 2) dX11_init_119 (by decide) ?_
  refine J_mna (pc := 120) (n := 160) (k := 2) dX11_init_120 ⟨List.mem_of_getElem? (i := 1398) rfl, rfl⟩ ac_i ⟨by decide, by decide⟩ ⟨by decide, by decide⟩ ⟨by decide, by decide⟩ (by decide) (by decide) (by decide) ?_
  refine J_putF (pc := 124) (fs := [.int 0, .int 0, .int 0, .int (-1), .int 0, .int 0, .int 0, .int 0, .int 0, .ref 60, .ref 61, .ref 62, .ref 63, .ref 64, .ref 65, .ref 66, .ref 67, .ref 68, .ref 79, .ref 90, .ref 99, .int 0, .int 0, .null, .null, .null, .null, .null, .null, .null, .int 0, .null, .null, .null, .null, .int 0, .int 0, .int 0, .int 0, .int 0, .int 0, .int 0, .null, .null, .null, .null, .int 0, .int 0, .int 0]) (v := .ref 108) dX11_init_124 kc11 fl_X11_52 ⟨rfl, rfl, rfl⟩ (by first | rfl | assumption) (Nat.le_of_ble_eq_true rfl) rfl rfl ?_
  refine J_aload_n (pc := 127) dX11_init_127 rfl ?_
  refine J_sipush (pc := 128) (v := 160) dX11_init_128 (by decide) ?_
  refine J_iconst (pc := 131) (v := 2) dX11_init_131 (by decide) ?_
  refine J_mna (pc := 132) (n := 160) (k := 2) dX11_init_132 ⟨List.mem_of_getElem? (i := 1398) rfl, rfl⟩ ac_i ⟨by decide, by decide⟩ ⟨by decide, by decide⟩ ⟨by decide, by decide⟩ (by decide) (by decide) (by decide) ?_
  refine J_putF (pc := 136) (fs := [.int 0, .int 0, .int 0, .int (-1), .int 0, .int 0, .int 0, .int 0, .int 0, .ref 60, .ref 61, .ref 62, .ref 63, .ref 64, .ref 65, .ref 66, .ref 67, .ref 68, .ref 79, .ref 90, .ref 99, .int 0, .int 0, .ref 108, .null, .null, .null, .null, .null, .null, .int 0, .null, .null, .null, .null, .int 0, .int 0, .int 0, .int 0, .int 0, .int 0, .int 0, .null, .null, .null, .null, .int 0, .int 0, .int 0]) (v := .ref 269) dX11_init_136 kc11 fl_X11_55 ⟨rfl, rfl, rfl⟩ (by first | rfl | assumption) (Nat.le_of_ble_eq_true rfl) rfl rfl ?_
  refine J_aload_n (pc := 139) dX11_init_139 rfl ?_
  refine J_bipush (pc := 140) (v := 10) dX11_init_140 (by decide) ?_
  refine J_iconst (pc := 142) (v := 2) dX11_init_142 (by decide) ?_
  refine J_mna (pc := 143) (n := 10) (k := 2) dX11_init_143 ⟨List.mem_of_getElem? (i := 1398) rfl, rfl⟩ ac_i ⟨by decide, by decide⟩ ⟨by decide, by decide⟩ ⟨by decide, by decide⟩ (by decide) (by decide) (by decide) ?_
  refine J_putF (pc := 147) (fs := [.int 0, .int 0, .int 0, .int (-1), .int 0, .int 0, .int 0, .int 0, .int 0, .ref 60, .ref 61, .ref 62, .ref 63, .ref 64, .ref 65, .ref 66, .ref 67, .ref 68, .ref 79, .ref 90, .ref 99, .int 0, .int 0, .ref 108, .ref 269, .null, .null, .null, .null, .null, .int 0, .null, .null, .null, .null, .int 0, .int 0, .int 0, .int 0, .int 0, .int 0, .int 0, .null, .null, .null, .null, .int 0, .int 0, .int 0]) (v := .ref 430) dX11_init_147 kc11 fl_X11_58 ⟨rfl, rfl, rfl⟩ (by first | rfl | assumption) (Nat.le_of_ble_eq_true rfl) rfl rfl ?_
  refine J_aload_n (pc := 150) dX11_init_150 rfl ?_
  refine J_bipush (pc := 151) (v := 10) dX11_init_151 (by decide) ?_
  refine J_iconst (pc := 153) (v := 2) dX11_init_153 (by decide) ?_
  refine J_mna (pc := 154) (n := 10) (k := 2) dX11_init_154 ⟨List.mem_of_getElem? (i := 1398) rfl, rfl⟩ ac_i ⟨by decide, by decide⟩ ⟨by decide, by decide⟩ ⟨by decide, by decide⟩ (by decide) (by decide) (by decide) ?_
  refine J_putF (pc := 158) (fs := [.int 0, .int 0, .int 0, .int (-1), .int 0, .int 0, .int 0, .int 0, .int 0, .ref 60, .ref 61, .ref 62, .ref 63, .ref 64, .ref 65, .ref 66, .ref 67, .ref 68, .ref 79, .ref 90, .ref 99, .int 0, .int 0, .ref 108, .ref 269, .ref 430, .null, .null, .null, .null, .int 0, .null, .null, .null, .null, .int 0, .int 0, .int 0, .int 0, .int 0, .int 0, .int 0, .null, .null, .null, .null, .int 0, .int 0, .int 0]) (v := .ref 441) dX11_init_158 kc11 fl_X11_61 ⟨rfl, rfl, rfl⟩ (by first | rfl | assumption) (Nat.le_of_ble_eq_true rfl) rfl rfl ?_
  refine J_aload_n (pc := 161) dX11_init_161 rfl ?_
  refine J_sipush (pc := 162) (v := 160) dX11_init_162 (by decide) ?_
  refine J_na (pc := 165) (t := 0) (n := 160) (z := .inl (fun _ => 0)) dX11_init_165 rfl (fun _ q => q) ac_i ⟨by decide, by decide⟩ (by decide) (fun _ => rfl) (by decide) (by decide) (by decide) ?_
  refine J_putF (pc := 167) (fs := [.int 0, .int 0, .int 0, .int (-1), .int 0, .int 0, .int 0, .int 0, .int 0, .ref 60, .ref 61, .ref 62, .ref 63, .ref 64, .ref 65, .ref 66, .ref 67, .ref 68, .ref 79, .ref 90, .ref 99, .int 0, .int 0, .ref 108, .ref 269, .ref 430, .ref 441, .null, .null, .null, .int 0, .null, .null, .null, .null, .int 0, .int 0, .int 0, .int 0, .int 0, .int 0, .int 0, .null, .null, .null, .null, .int 0, .int 0, .int 0]) (v := .ref 452) dX11_init_167 kc11 fl_X11_64 ⟨rfl, rfl, rfl⟩ (by first | rfl | assumption) (Nat.le_of_ble_eq_true rfl) rfl rfl ?_
  refine J_aload_n (pc := 170) dX11_init_170 rfl ?_
  refine J_bipush (pc := 171) (v := 8) dX11_init_171 (by decide) ?_
  refine J_na (pc := 173) (t := 0) (n := 8) (z := .inl (fun _ => 0)) dX11_init_173 rfl (fun _ q => q) ac_i ⟨by decide, by decide⟩ (by decide) (fun _ => rfl) (by decide) (by decide) (by decide) ?_
  refine J_putF (pc := 175) (fs := [.int 0, .int 0, .int 0, .int (-1), .int 0, .int 0, .int 0, .int 0, .int 0, .ref 60, .ref 61, .ref 62, .ref 63, .ref 64, .ref 65, .ref 66, .ref 67, .ref 68, .ref 79, .ref 90, .ref 99, .int 0, .int 0, .ref 108, .ref 269, .ref 430, .ref 441, .ref 452, .null, .null, .int 0, .null, .null, .null, .null, .int 0, .int 0, .int 0, .int 0, .int 0, .int 0, .int 0, .null, .null, .null, .null, .int 0, .int 0, .int 0]) (v := .ref 453) dX11_init_175 kc11 fl_X11_67 ⟨rfl, rfl, rfl⟩ (by first | rfl | assumption) (Nat.le_of_ble_eq_true rfl) rfl rfl ?_
  refine J_aload_n (pc := 178) dX11_init_178 rfl ?_
  refine J_bipush (pc := 179) (v := 80) dX11_init_179 (by decide) ?_
  refine J_iconst (pc := 181) (v := 4) dX11_init_181 (by decide) ?_
  refine J_mna (pc := 182) (n := 80) (k := 4) dX11_init_182 ⟨List.mem_of_getElem? (i := 1398) rfl, rfl⟩ ac_i ⟨by decide, by decide⟩ ⟨by decide, by decide⟩ ⟨by decide, by decide⟩ (by decide) (by decide) (by decide) ?_
  refine J_putF (pc := 186) (fs := [.int 0, .int 0, .int 0, .int (-1), .int 0, .int 0, .int 0, .int 0, .int 0, .ref 60, .ref 61, .ref 62, .ref 63, .ref 64, .ref 65, .ref 66, .ref 67, .ref 68, .ref 79, .ref 90, .ref 99, .int 0, .int 0, .ref 108, .ref 269, .ref 430, .ref 441, .ref 452, .ref 453, .null, .int 0, .null, .null, .null, .null, .int 0, .int 0, .int 0, .int 0, .int 0, .int 0, .int 0, .null, .null, .null, .null, .int 0, .int 0, .int 0]) (v := .ref 454) dX11_init_186 kc11 fl_X11_70 ⟨rfl, rfl, rfl⟩ (by first | rfl | assumption) (Nat.le_of_ble_eq_true rfl) rfl rfl ?_
  refine J_aload_n (pc := 189) dX11_init_189 rfl ?_
  refine J_bipush (pc := 190) (v := 45) dX11_init_190 (by decide) ?_
  refine J_na (pc := 192) (t := 0) (n := 45) (z := .inl (fun _ => 0)) dX11_init_192 rfl (fun _ q => q) ac_i ⟨by decide, by decide⟩ (by decide) (fun _ => rfl) (by decide) (by decide) (by decide) ?_
  refine J_putF (pc := 194) (fs := [.int 0, .int 0, .int 0, .int (-1), .int 0, .int 0, .int 0, .int 0, .int 0, .ref 60, .ref 61, .ref 62, .ref 63, .ref 64, .ref 65, .ref 66, .ref 67, .ref 68, .ref 79, .ref 90, .ref 99, .int 0, .int 0, .ref 108, .ref 269, .ref 430, .ref 441, .ref 452, .ref 453, .ref 454, .int 0, .null, .null, .null, .null, .int 0, .int 0, .int 0, .int 0, .int 0, .int 0, .int 0, .null, .null, .null, .null, .int 0, .int 0, .int 0]) (v := .ref 535) dX11_init_194 kc11 fl_X11_73 ⟨rfl, rfl, rfl⟩ (by first | rfl | assumption) (Nat.le_of_ble_eq_true rfl) rfl rfl ?_
  refine J_aload_n (pc := 197) dX11_init_197 rfl ?_
  refine J_bipush (pc := 198) (v := 45) dX11_init_198 (by decide) ?_
  refine J_na (pc := 200) (t := 0) (n := 45) (z := .inl (fun _ => 0)) dX11_init_200 rfl (fun _ q => q) ac_i ⟨by decide, by decide⟩ (by decide) (fun _ => rfl) (by decide) (by decide) (by decide) ?_
  refine J_putF (pc := 202) (fs := [.int 0, .int 0, .int 0, .int (-1), .int 0, .int 0, .int 0, .int 0, .int 0, .ref 60, .ref 61, .ref 62, .ref 63, .ref 64, .ref 65, .ref 66, .ref 67, .ref 68, .ref 79, .ref 90, .ref 99, .int 0, .int 0, .ref 108, .ref 269, .ref 430, .ref 441, .ref 452, .ref 453, .ref 454, .int 0, .ref 535, .null, .null, .null, .int 0, .int 0, .int 0, .int 0, .int 0, .int 0, .int 0, .null, .null, .null, .null, .int 0, .int 0, .int 0]) (v := .ref 536) dX11_init_202 kc11 fl_X11_76 ⟨rfl, rfl, rfl⟩ (by first | rfl | assumption) (Nat.le_of_ble_eq_true rfl) rfl rfl ?_
  refine J_aload_n (pc := 205) dX11_init_205 rfl ?_
  refine J_bipush (pc := 206) (v := 16) dX11_init_206 (by decide) ?_
  refine J_bipush (pc := 208) (v := 45) dX11_init_208 (by decide) ?_
  refine J_mna (pc := 210) (n := 16) (k := 45) dX11_init_210 ⟨List.mem_of_getElem? (i := 1398) rfl, rfl⟩ ac_i ⟨by decide, by decide⟩ ⟨by decide, by decide⟩ ⟨by decide, by decide⟩ (by decide) (by decide) (by decide) ?_
  refine J_putF (pc := 214) (fs := [.int 0, .int 0, .int 0, .int (-1), .int 0, .int 0, .int 0, .int 0, .int 0, .ref 60, .ref 61, .ref 62, .ref 63, .ref 64, .ref 65, .ref 66, .ref 67, .ref 68, .ref 79, .ref 90, .ref 99, .int 0, .int 0, .ref 108, .ref 269, .ref 430, .ref 441, .ref 452, .ref 453, .ref 454, .int 0, .ref 535, .ref 536, .null, .null, .int 0, .int 0, .int 0, .int 0, .int 0, .int 0, .int 0, .null, .null, .null, .null, .int 0, .int 0, .int 0]) (v := .ref 537) dX11_init_214 kc11 fl_X11_79 ⟨rfl, rfl, rfl⟩ (by first | rfl | assumption) (Nat.le_of_ble_eq_true rfl) rfl rfl ?_
  refine J_aload_n (pc := 217) dX11_init_217 rfl ?_
  refine J_iconst (pc := 218) (v := 3) dX11_init_218 (by decide) ?_
  refine J_sipush (pc := 219) (v := 766) dX11_init_219 (by decide) ?_
  refine J_mna (pc := 222) (n := 3) (k := 766) dX11_init_222 ⟨List.mem_of_getElem? (i := 1398) rfl, rfl⟩ ac_i ⟨by decide, by decide⟩ ⟨by decide, by decide⟩ ⟨by decide, by decide⟩ (by decide) (by decide) (by decide) ?_
  refine J_putF (pc := 226) (fs := [.int 0, .int 0, .int 0, .int (-1), .int 0, .int 0, .int 0, .int 0, .int 0, .ref 60, .ref 61, .ref 62, .ref 63, .ref 64, .ref 65, .ref 66, .ref 67, .ref 68, .ref 79, .ref 90, .ref 99, .int 0, .int 0, .ref 108, .ref 269, .ref 430, .ref 441, .ref 452, .ref 453, .ref 454, .int 0, .ref 535, .ref 536, .ref 537, .null, .int 0, .int 0, .int 0, .int 0, .int 0, .int 0, .int 0, .null, .null, .null, .null, .int 0, .int 0, .int 0]) (v := .ref 554) dX11_init_226 kc11 fl_X11_82 ⟨rfl, rfl, rfl⟩ (by first | rfl | assumption) (Nat.le_of_ble_eq_true rfl) rfl rfl ?_
  refine J_aload_n (pc := 229) dX11_init_229 rfl ?_
  refine J_bipush (pc := 230) (v := 8) dX11_init_230 (by decide) ?_
  refine J_na (pc := 232) (t := 0) (n := 8) (z := .inl (fun _ => 0)) dX11_init_232 rfl (fun _ q => q) ac_i ⟨by decide, by decide⟩ (by decide) (fun _ => rfl) (by decide) (by decide) (by decide) ?_
  refine J_putF (pc := 234) (fs := [.int 0, .int 0, .int 0, .int (-1), .int 0, .int 0, .int 0, .int 0, .int 0, .ref 60, .ref 61, .ref 62, .ref 63, .ref 64, .ref 65, .ref 66, .ref 67, .ref 68, .ref 79, .ref 90, .ref 99, .int 0, .int 0, .ref 108, .ref 269, .ref 430, .ref 441, .ref 452, .ref 453, .ref 454, .int 0, .ref 535, .ref 536, .ref 537, .ref 554, .int 0, .int 0, .int 0, .int 0, .int 0, .int 0, .int 0, .null, .null, .null, .null, .int 0, .int 0, .int 0]) (v := .ref 558) dX11_init_234 kc11 fl_X11_85 ⟨rfl, rfl, rfl⟩ (by first | rfl | assumption) (Nat.le_of_ble_eq_true rfl) rfl rfl ?_
  refine J_aload_n (pc := 237) dX11_init_237 rfl ?_
  refine J_bipush (pc := 238) (v := 8) dX11_init_238 (by decide) ?_
  refine J_na (pc := 240) (t := 0) (n := 8) (z := .inl (fun _ => 0)) dX11_init_240 rfl (fun _ q => q) ac_i ⟨by decide, by decide⟩ (by decide) (fun _ => rfl) (by decide) (by decide) (by decide) ?_
  refine J_putF (pc := 242) (fs := [.int 0, .int 0, .int 0, .int (-1), .int 0, .int 0, .int 0, .int 0, .int 0, .ref 60, .ref 61, .ref 62, .ref 63, .ref 64, .ref 65, .ref 66, .ref 67, .ref 68, .ref 79, .ref 90, .ref 99, .int 0, .int 0, .ref 108, .ref 269, .ref 430, .ref 441, .ref 452, .ref 453, .ref 454, .int 0, .ref 535, .ref 536, .ref 537, .ref 554, .int 0, .int 0, .int 0, .int 0, .int 0, .int 0, .int 0, .ref 558, .null, .null, .null, .int 0, .int 0, .int 0]) (v := .ref 559) dX11_init_242 kc11 fl_X11_88 ⟨rfl, rfl, rfl⟩ (by first | rfl | assumption) (Nat.le_of_ble_eq_true rfl) rfl rfl ?_
  refine J_aload_n (pc := 245) dX11_init_245 rfl ?_
  refine J_bipush (pc := 246) (v := 8) dX11_init_246 (by decide) ?_
  refine J_na (pc := 248) (t := 0) (n := 8) (z := .inl (fun _ => 0)) dX11_init_248 rfl (fun _ q => q) ac_i ⟨by decide, by decide⟩ (by decide) (fun _ => rfl) (by decide) (by decide) (by decide) ?_
  refine J_putF (pc := 250) (fs := [.int 0, .int 0, .int 0, .int (-1), .int 0, .int 0, .int 0, .int 0, .int 0, .ref 60, .ref 61, .ref 62, .ref 63, .ref 64, .ref 65, .ref 66, .ref 67, .ref 68, .ref 79, .ref 90, .ref 99, .int 0, .int 0, .ref 108, .ref 269, .ref 430, .ref 441, .ref 452, .ref 453, .ref 454, .int 0, .ref 535, .ref 536, .ref 537, .ref 554, .int 0, .int 0, .int 0, .int 0, .int 0, .int 0, .int 0, .ref 558, .ref 559, .null, .null, .int 0, .int 0, .int 0]) (v := .ref 560) dX11_init_250 kc11 fl_X11_91 ⟨rfl, rfl, rfl⟩ (by first | rfl | assumption) (Nat.le_of_ble_eq_true rfl) rfl rfl ?_
  refine J_aload_n (pc := 253) dX11_init_253 rfl ?_
  refine J_bipush (pc := 254) (v := 9) dX11_init_254 (by decide) ?_
  refine J_na (pc := 256) (t := 0) (n := 9) (z := .inl (fun _ => 0)) dX11_init_256 rfl (fun _ q => q) ac_i ⟨by decide, by decide⟩ (by decide) (fun _ => rfl) (by decide) (by decide) (by decide) ?_
  refine J_putF (pc := 258) (fs := [.int 0, .int 0, .int 0, .int (-1), .int 0, .int 0, .int 0, .int 0, .int 0, .ref 60, .ref 61, .ref 62, .ref 63, .ref 64, .ref 65, .ref 66, .ref 67, .ref 68, .ref 79, .ref 90, .ref 99, .int 0, .int 0, .ref 108, .ref 269, .ref 430, .ref 441, .ref 452, .ref 453, .ref 454, .int 0, .ref 535, .ref 536, .ref 537, .ref 554, .int 0, .int 0, .int 0, .int 0, .int 0, .int 0, .int 0, .ref 558, .ref 559, .ref 560, .null, .int 0, .int 0, .int 0]) (v := .ref 561) dX11_init_258 kc11 fl_X11_94 ⟨rfl, rfl, rfl⟩ (by first | rfl | assumption) (Nat.le_of_ble_eq_true rfl) rfl rfl ?_
  refine J_aload_n (pc := 261) dX11_init_261 rfl ?_
  refine J_cv (pc := 262) (N := mX11_tellsNothing) dX11_init_262 ml_X11_97 cf_X11_tellsNothing cv_X11_tellsNothing (nX11t (by first | rfl | assumption) (by first | rfl | assumption) (by first | rfl | assumption)) rfl rfl (Nat.le_of_ble_eq_true rfl) (by decide) (by decide) (by decide) (rw_of (ci := 11) (fs := [.int 0, .int 0, .int 0, .int (-1), .int 0, .int 0, .int 0, .int 0, .int 0, .ref 60, .ref 61, .ref 62, .ref 63, .ref 64, .ref 65, .ref 66, .ref 67, .ref 68, .ref 79, .ref 90, .ref 99, .int 0, .int 0, .ref 108, .ref 269, .ref 430, .ref 441, .ref 452, .ref 453, .ref 454, .int 0, .ref 535, .ref 536, .ref 537, .ref 554, .int 0, .int 0, .int 0, .int 0, .int 0, .int 0, .int 0, .ref 558, .ref 559, .ref 560, .ref 561, .int 0, .int 0, .int 0]) (by first | rfl | assumption) rfl rfl) (fun v9 h9 z9 q9 => ?_)
  obtain ⟨e9, rfl, rfl⟩ := q9
  cases e9
  refine J_aload_n (pc := 265) dX11_init_265 rfl ?_
  refine J_cv (pc := 266) (N := mX11_beginsAnew) dX11_init_266 ml_X11_100 cf_X11_beginsAnew cv_X11_beginsAnew (nX11b (by first | rfl | assumption) (by first | rfl | assumption) (by first | rfl | assumption) (by first | rfl | assumption) (by first | rfl | assumption) (by first | rfl | assumption) (by first | rfl | assumption) (by first | rfl | assumption)) rfl rfl (Nat.le_of_ble_eq_true rfl) (by decide) (by decide) (by decide) (rw_of (ci := 11) (fs := [.int 0, .int 0, .int 0, .int (-1), .int 0, .int 0, .int 0, .int 0, .int 0, .ref 60, .ref 61, .ref 62, .ref 63, .ref 64, .ref 65, .ref 66, .ref 67, .ref 68, .ref 79, .ref 90, .ref 99, .int 0, .int 0, .ref 108, .ref 269, .ref 430, .ref 441, .ref 452, .ref 453, .ref 454, .int 0, .ref 535, .ref 536, .ref 537, .ref 554, .int 0, .int 0, .int 0, .int 0, .int 0, .int 0, .int 0, .ref 558, .ref 559, .ref 560, .ref 561, .int 0, .int 0, .int 0]) (by first | rfl | assumption) rfl rfl) (fun v9 h9 z9 q9 => ?_)
  obtain ⟨e9, rfl, rfl⟩ := q9
  cases e9
  exact J_ret (pc := 269) rfl rfl dX11_init_269 hQ

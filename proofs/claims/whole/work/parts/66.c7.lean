/-! ===== the JDK's strings: the eight constants, at SB + i, their bytes at SB + 100 + i ===== -/
def sB (i k : Nat) : Int32 := (strB.getD i []).getD k 0
def sN (i : Nat) : Nat := strL.getD i 0
set_option maxRecDepth 100000 in
theorem sN_le : ∀ i, i < 8 → sN i < 100 := by decide +kernel
set_option maxRecDepth 100000 in
theorem sB_ok : ∀ i, i < 8 → ∀ k, k < sN i → ((sB i k &&& 255).toUInt32 % 65536).toInt32 = sB i k ∧ ∃ c, c < 128 ∧ sB i k = nI c := by decide +kernel
theorem nar_c : ∀ c, c < 128 → narrow .char (.int (nI c)) = .int (nI c) := by decide +kernel
theorem ab_K {g : Gp} {i : Nat} (hi : i < 8) : ab g (SB + i) = gK g i := by
  unfold ab
  rw [if_neg (by omega), if_pos (by omega), Nat.add_sub_cancel_left]
theorem ab_V {g : Gp} {i : Nat} : ab g (SB + 100 + i) = gV g i := by
  unfold ab
  rw [if_neg (by omega), if_neg (by omega), Nat.add_sub_cancel_left]
section JZ
variable {g : Gp} {M : Mt} {d : Nat} {tb : List ExceptionTableEntry} {pc idx i : Nat} {ls ls' : List (Option Value)} {st : List Value} {h : AH} {sz kc ks : Nat} {Q : Po}
theorem J_gs {C n dsc : String} {v : Value} (hd : decode M.2.1 pc = .ok (.getstatic idx, 3)) (hZ : ∀ s, Sr g s s.heap → va_Z C n dsc (cv g v) (Ag g) s s.heap) (hl : InT (.fieldLink M.1.cls idx C n dsc)) (k : J g M d tb (pc + 3) ls (v :: st) h sz kc ks Q) : J g M d tb pc ls st h sz kc ks Q := by
  intro p e s m args below meth c R mc ms QF C0 E H locs cells slots la hH hS hl1 h1 h2
  have hk := k p e s m args below meth c R mc ms QF C0 E H locs cells slots la hH hS hl1 h1 h2
  obtain ⟨c1, c2, c3, c4, c5, c6, c7, c8, c9, c10, c11, c12, c13⟩ := C0
  exact va_gets c1 c2 (hZ s c7) hS c5 (c7.2.1.good hl.1 hl.2) (fun _ q => q) hd hk
/-- the formatter: null or an object -/
theorem J_gsF (hd : decode M.2.1 pc = .ok (.getstatic idx, 3)) (hl : InT (.fieldLink M.1.cls idx "jdk/internal/util/Preconditions" "SIOOBE_FORMATTER" "Ljava/util/function/BiFunction;")) (k1 : J g M d tb (pc + 3) ls (.null :: st) h sz kc ks Q) (k2 : J g M d tb (pc + 3) ls (.ref (SB + 100 + 9) :: st) h sz kc ks Q) : J g M d tb pc ls st h sz kc ks Q := by
  intro p e s m args below meth c R mc ms QF C0 E H locs cells slots la hH hS hl1 h1 h2
  have hk1 := k1 p e s m args below meth c R mc ms QF C0 E H locs cells slots la hH hS hl1 h1 h2
  have hk2 := k2 p e s m args below meth c R mc ms QF C0 E H locs cells slots la hH hS hl1 h1 h2
  obtain ⟨c1, c2, c3, c4, c5, c6, c7, c8, c9, c10, c11, c12, c13⟩ := C0
  rcases c7.2.2.2.2.2.2.2.1 with hF | hF
  · exact va_gets c1 c2 hF hS c5 (c7.2.1.good hl.1 hl.2) (fun _ q => q) hd hk1
  · rw [List.map_cons, cv_ref, ab_V] at hk2
    exact va_gets c1 c2 hF hS c5 (c7.2.1.good hl.1 hl.2) (fun _ q => q) hd hk2
theorem J_sval (hi8 : i < 8) (hd : decode M.2.1 pc = .ok (.getfield idx, 3)) (hl : InT (.fieldLink M.1.cls idx "java/lang/String" "value" "[B")) (k : J g M d tb (pc + 3) ls (.ref (SB + 100 + i) :: st) h sz kc ks Q) : J g M d tb pc ls (.ref (SB + i) :: st) h sz kc ks Q := by
  intro p e s m args below meth c R mc ms QF C0 E H locs cells slots la hH hS hl1 h1 h2
  have hk := k p e s m args below meth c R mc ms QF C0 E H locs cells slots la hH hS hl1 h1 h2
  obtain ⟨c1, c2, c3, c4, c5, c6, c7, c8, c9, c10, c11, c12, c13⟩ := C0
  rw [List.map_cons, cv_ref, ab_V] at hk
  rw [List.map_cons, cv_ref, ab_K hi8]
  exact vk_getf c1 c2 (c7.2.2.1.1 i hi8).2.2.1 hS c5 (c7.2.1.good hl.1 hl.2) (fun _ q => q) hd hk
theorem J_scod (hi8 : i < 8) (hd : decode M.2.1 pc = .ok (.getfield idx, 3)) (hl : InT (.fieldLink M.1.cls idx "java/lang/String" "coder" "B")) (k : J g M d tb (pc + 3) ls (.int 0 :: st) h sz kc ks Q) : J g M d tb pc ls (.ref (SB + i) :: st) h sz kc ks Q := by
  intro p e s m args below meth c R mc ms QF C0 E H locs cells slots la hH hS hl1 h1 h2
  have hk := k p e s m args below meth c R mc ms QF C0 E H locs cells slots la hH hS hl1 h1 h2
  obtain ⟨c1, c2, c3, c4, c5, c6, c7, c8, c9, c10, c11, c12, c13⟩ := C0
  rw [List.map_cons, cv_ref, ab_K hi8]
  exact vk_getf c1 c2 (c7.2.2.1.1 i hi8).2.1 hS c5 (c7.2.1.good hl.1 hl.2) (fun _ q => q) hd hk
theorem J_slen (hi8 : i < 8) (hd : decode M.2.1 pc = .ok (.arraylength, 1)) (k : J g M d tb (pc + 1) ls (.int (nI (sN i)) :: st) h sz kc ks Q) : J g M d tb pc ls (.ref (SB + 100 + i) :: st) h sz kc ks Q := by
  intro p e s m args below meth c R mc ms QF C0 E H locs cells slots la hH hS hl1 h1 h2
  have hk := k p e s m args below meth c R mc ms QF C0 E H locs cells slots la hH hS hl1 h1 h2
  obtain ⟨c1, c2, c3, c4, c5, c6, c7, c8, c9, c10, c11, c12, c13⟩ := C0
  rw [List.map_cons, cv_ref, ab_V]
  exact va_tlen c1 c2 (c7.2.2.1.1 i hi8).2.2.2 hS rfl hd hk
theorem J_sbl {x : Int32} {k : Nat} (hi8 : i < 8) (hd : decode M.2.1 pc = .ok (.baload, 1)) (hx : x = nI k) (hk8 : k < sN i) (kk : J g M d tb (pc + 1) ls (.int (sB i k) :: st) h sz kc ks Q) : J g M d tb pc ls (.int x :: .ref (SB + 100 + i) :: st) h sz kc ks Q := by
  intro p e s m args below meth c R mc ms QF C0 E H locs cells slots la hH hS hl1 h1 h2
  have hk := kk p e s m args below meth c R mc ms QF C0 E H locs cells slots la hH hS hl1 h1 h2
  obtain ⟨c1, c2, c3, c4, c5, c6, c7, c8, c9, c10, c11, c12, c13⟩ := C0
  have h100 := sN_le i hi8
  subst hx
  rw [List.map_cons, List.map_cons, cv_ref, cv_int, ab_V]
  exact va_tb c1 c2 (c7.2.2.1.1 i hi8).2.2.2 hS (vp_in_nI hk8 (show sN i < 2 ^ 31 by omega)) (by rw [nI_clamp (by omega)]; rfl) hd hk
theorem J_ldcs {q : String × Nat × String} (hd : decode M.2.1 pc = .ok (.ldc q.2.1, 2)) (hq : strN[i]? = some q) (ho : q.1 = M.1.cls) (k : J g M d tb (pc + 2) ls (.ref (SB + i) :: st) h sz kc ks Q) : J g M d tb pc ls st h sz kc ks Q := by
  intro p e s m args below meth c R mc ms QF C0 E H locs cells slots la hH hS hl1 h1 h2
  have hk := k p e s m args below meth c R mc ms QF C0 E H locs cells slots la hH hS hl1 h1 h2
  obtain ⟨c1, c2, c3, c4, c5, c6, c7, c8, c9, c10, c11, c12, c13⟩ := C0
  have hi8 : i < 8 := (List.getElem?_eq_some_iff.mp hq).1
  rw [List.map_cons, cv_ref, ab_K hi8] at hk
  have hR := c7.2.2.2.1 i q hq
  rw [ho] at hR
  exact va_ldcS c1 c2 c5 hR hd hk
end JZ
theorem shr0 (x : Int32) : x >>> ((0 : Int32) &&& 31) = x := by
  apply Int32.toBitVec_inj.mp
  show x.toBitVec.sshiftRight (((0 : Int32) &&& 31).toBitVec.smod 32).toNat = x.toBitVec
  rw [show (((0 : Int32) &&& 31).toBitVec.smod 32).toNat = 0 by decide, BitVec.sshiftRight_zero]
set_option maxRecDepth 100000 in
theorem fs_J0_38 : InT (.fieldLink RJ0 38 "java/lang/String" "COMPACT_STRINGS" "Z") := ⟨List.mem_of_getElem? (i := 790) rfl, rfl⟩
set_option maxRecDepth 100000 in
theorem fs_J0_1053 : InT (.fieldLink RJ0 1053 "jdk/internal/util/Preconditions" "SIOOBE_FORMATTER" "Ljava/util/function/BiFunction;") := ⟨List.mem_of_getElem? (i := 806) rfl, rfl⟩
set_option maxRecDepth 100000 in
theorem fs_J0_9 : InT (.fieldLink RJ0 9 "java/lang/String" "value" "[B") := ⟨List.mem_of_getElem? (i := 2009) rfl, rfl⟩
set_option maxRecDepth 100000 in
theorem fs_J0_15 : InT (.fieldLink RJ0 15 "java/lang/String" "coder" "B") := ⟨List.mem_of_getElem? (i := 2010) rfl, rfl⟩
theorem r_J0_isLatin1_aae02 {g : Gp} {S : Sx} {i : Nat} (hi8 : i < 8) : RT g mJ0_isLatin1_aae02 0 [.ref (SB + i)] S (some (.int 1)) S := by
  refine RT_ofQ ⟨rfl, rfl⟩ (Nat.le_of_ble_eq_true rfl) (fun sz Q hQ => ?_)
  refine J_gs (pc := 0) (v := .int 1) dJ0_isLatin1_aae02_0 (fun s h => h.2.2.2.2.2.2.1) fs_J0_38 ?_
  refine J_if_eq (pc := 3) (tgt := 17) dJ0_isLatin1_aae02_3 (by decide) (fun c3 => absurd c3 (by decide)) (fun c3 => ?_)
  refine J_aload_n (pc := 6) dJ0_isLatin1_aae02_6 rfl ?_
  refine J_scod (pc := 7) hi8 dJ0_isLatin1_aae02_7 fs_J0_15 ?_
  refine J_if_ne (pc := 10) (tgt := 17) dJ0_isLatin1_aae02_10 (by decide) (fun c10 => absurd rfl c10) (fun c10 => ?_)
  refine J_iconst (pc := 13) (v := 1) dJ0_isLatin1_aae02_13 (by decide) ?_
  refine J_goto (pc := 14) (tgt := 18) dJ0_isLatin1_aae02_14 (by decide) ?_
  exact J_iret (pc := 18) rfl rfl rfl dJ0_isLatin1_aae02_18 (rq hQ rfl rfl)
theorem r_J0_coder_7d493 {g : Gp} {S : Sx} {i : Nat} (hi8 : i < 8) : RT g mJ0_coder_7d493 0 [.ref (SB + i)] S (some (.int 0)) S := by
  refine RT_ofQ ⟨rfl, rfl⟩ (Nat.le_of_ble_eq_true rfl) (fun sz Q hQ => ?_)
  refine J_gs (pc := 0) (v := .int 1) dJ0_coder_7d493_0 (fun s h => h.2.2.2.2.2.2.1) fs_J0_38 ?_
  refine J_if_eq (pc := 3) (tgt := 13) dJ0_coder_7d493_3 (by decide) (fun c3 => absurd c3 (by decide)) (fun c3 => ?_)
  refine J_aload_n (pc := 6) dJ0_coder_7d493_6 rfl ?_
  refine J_scod (pc := 7) hi8 dJ0_coder_7d493_7 fs_J0_15 ?_
  refine J_goto (pc := 10) (tgt := 14) dJ0_coder_7d493_10 (by decide) ?_
  exact J_iret (pc := 14) rfl rfl rfl dJ0_coder_7d493_14 (rq hQ rfl rfl)
theorem r_J0_length_8abf5 {g : Gp} {S : Sx} {i : Nat} (hi8 : i < 8) : RT g mJ0_length_8abf5 1 [.ref (SB + i)] S (some (.int (nI (sN i)))) S := by
  refine RT_ofQ ⟨rfl, rfl⟩ (Nat.le_of_ble_eq_true rfl) (fun sz Q hQ => ?_)
  refine J_aload_n (pc := 0) dJ0_length_8abf5_0 rfl ?_
  refine J_sval (pc := 1) hi8 dJ0_length_8abf5_1 fs_J0_9 ?_
  refine J_slen (pc := 4) hi8 dJ0_length_8abf5_4 ?_
  refine J_aload_n (pc := 5) dJ0_length_8abf5_5 rfl ?_
  refine J_cvr (pc := 6) (N := mJ0_coder_7d493) dJ0_length_8abf5_6 ml_J0_335 cf_J0_coder_7d493 cv_J0_coder_7d493 (r_J0_coder_7d493 hi8) rfl rfl (Nat.le_of_ble_eq_true rfl) (by decide) (Or.inr ⟨rfl, Nat.le_add_right _ _, Nat.add_lt_add_left hi8 _⟩) ?_
  refine J_ishr (pc := 9) dJ0_length_8abf5_9 ?_
  refine J_t1 (shr0 _) ?_
  exact J_iret (pc := 10) rfl rfl rfl dJ0_length_8abf5_10 (rq hQ rfl rfl)
theorem r_J3_checkIndex_n {g : Gp} {S : Sx} {n x : Nat} (hx : x < n) (hn : n < 1000) : RT g mJ3_checkIndex_8e157 0 [.int (nI x), .int (nI n), .null] S (some (.int (nI x))) S := by
  refine RT_ofQ ⟨rfl, rfl⟩ (Nat.le_of_ble_eq_true rfl) (fun sz Q hQ => ?_)
  refine J_iload_n (pc := 0) dJ3_checkIndex_8e157_0 rfl ?_
  refine J_if_lt (pc := 1) (tgt := 9) dJ3_checkIndex_8e157_1 (by decide) (fun c1 => absurd c1 (nI_pos (by omega))) (fun c1 => ?_)
  refine J_iload_n (pc := 4) dJ3_checkIndex_8e157_4 rfl ?_
  refine J_iload_n (pc := 5) dJ3_checkIndex_8e157_5 rfl ?_
  refine J_icmp_lt (pc := 6) (tgt := 16) dJ3_checkIndex_8e157_6 (by decide) (fun c6 => ?_) (fun c6 => absurd (nI_lt hx (by omega)) c6)
  refine J_iload_n (pc := 16) dJ3_checkIndex_8e157_16 rfl ?_
  exact J_iret (pc := 17) rfl rfl rfl dJ3_checkIndex_8e157_17 (rq hQ rfl rfl)
theorem r_J3_checkIndex_r {g : Gp} {S : Sx} {n x : Nat} (hx : x < n) (hn : n < 1000) : RT g mJ3_checkIndex_8e157 0 [.int (nI x), .int (nI n), .ref (SB + 100 + 9)] S (some (.int (nI x))) S := by
  refine RT_ofQ ⟨rfl, rfl⟩ (Nat.le_of_ble_eq_true rfl) (fun sz Q hQ => ?_)
  refine J_iload_n (pc := 0) dJ3_checkIndex_8e157_0 rfl ?_
  refine J_if_lt (pc := 1) (tgt := 9) dJ3_checkIndex_8e157_1 (by decide) (fun c1 => absurd c1 (nI_pos (by omega))) (fun c1 => ?_)
  refine J_iload_n (pc := 4) dJ3_checkIndex_8e157_4 rfl ?_
  refine J_iload_n (pc := 5) dJ3_checkIndex_8e157_5 rfl ?_
  refine J_icmp_lt (pc := 6) (tgt := 16) dJ3_checkIndex_8e157_6 (by decide) (fun c6 => ?_) (fun c6 => absurd (nI_lt hx (by omega)) c6)
  refine J_iload_n (pc := 16) dJ3_checkIndex_8e157_16 rfl ?_
  exact J_iret (pc := 17) rfl rfl rfl dJ3_checkIndex_8e157_17 (rq hQ rfl rfl)
theorem r_J0_checkIndex_df160 {g : Gp} {S : Sx} {n x : Nat} (hx : x < n) (hn : n < 1000) : RT g mJ0_checkIndex_df160 1 [.int (nI x), .int (nI n)] S none S := by
  refine RT_ofQ ⟨rfl, rfl⟩ (Nat.le_of_ble_eq_true rfl) (fun sz Q hQ => ?_)
  refine J_iload_n (pc := 0) dJ0_checkIndex_df160_0 rfl ?_
  refine J_iload_n (pc := 1) dJ0_checkIndex_df160_1 rfl ?_
  refine J_gsF (pc := 2) dJ0_checkIndex_df160_2 fs_J0_1053 ?_ ?_
  · refine J_csr (pc := 5) (N := mJ3_checkIndex_8e157) dJ0_checkIndex_df160_5 ml_J0_1059 cf_J3_checkIndex_8e157 cs_J3_checkIndex_8e157 (r_J3_checkIndex_n hx hn) rfl rfl (Nat.le_of_ble_eq_true rfl) (by decide) ?_
    refine J_pop (pc := 8) dJ0_checkIndex_df160_8 rfl ?_
    exact J_ret (pc := 9) rfl rfl dJ0_checkIndex_df160_9 (rqv hQ rfl)
  · refine J_csr (pc := 5) (N := mJ3_checkIndex_8e157) dJ0_checkIndex_df160_5 ml_J0_1059 cf_J3_checkIndex_8e157 cs_J3_checkIndex_8e157 (r_J3_checkIndex_r hx hn) rfl rfl (Nat.le_of_ble_eq_true rfl) (by decide) ?_
    refine J_pop (pc := 8) dJ0_checkIndex_df160_8 rfl ?_
    exact J_ret (pc := 9) rfl rfl dJ0_checkIndex_df160_9 (rqv hQ rfl)
theorem r_J1_charAt_3b067 {g : Gp} {S : Sx} {i : Nat} (hi8 : i < 8) {k : Nat} (hk : k < sN i) : RT g mJ1_charAt_3b067 2 [.ref (SB + 100 + i), .int (nI k)] S (some (.int (sB i k))) S := by
  refine RT_ofQ ⟨rfl, rfl⟩ (Nat.le_of_ble_eq_true rfl) (fun sz Q hQ => ?_)
  have h100 := sN_le i hi8
  obtain ⟨e1, c, hc, e2⟩ := sB_ok i hi8 k hk
  refine J_iload_n (pc := 0) dJ1_charAt_3b067_0 rfl ?_
  refine J_aload_n (pc := 1) dJ1_charAt_3b067_1 rfl ?_
  refine J_slen (pc := 2) hi8 dJ1_charAt_3b067_2 ?_
  refine J_csv (pc := 3) (N := mJ0_checkIndex_df160) dJ1_charAt_3b067_3 ml_J1_9 cf_J0_checkIndex_df160 cs_J0_checkIndex_df160 (r_J0_checkIndex_df160 hk (by omega)) rfl rfl (Nat.le_of_ble_eq_true rfl) (by decide) ?_
  refine J_aload_n (pc := 6) dJ1_charAt_3b067_6 rfl ?_
  refine J_iload_n (pc := 7) dJ1_charAt_3b067_7 rfl ?_
  refine J_sbl (pc := 8) hi8 dJ1_charAt_3b067_8 rfl hk ?_
  refine J_sipush (pc := 9) (v := 255) dJ1_charAt_3b067_9 (by decide) ?_
  refine J_iand (pc := 12) dJ1_charAt_3b067_12 ?_
  refine J_i2c (pc := 13) dJ1_charAt_3b067_13 ?_
  refine J_t1 e1 ?_
  exact J_iret (pc := 14) rfl rfl (by rw [e2]; exact nar_c c hc) dJ1_charAt_3b067_14 (rq hQ rfl rfl)
theorem r_J0_charAt_5068e {g : Gp} {S : Sx} {i : Nat} (hi8 : i < 8) {k : Nat} (hk : k < sN i) : RT g mJ0_charAt_5068e 3 [.ref (SB + i), .int (nI k)] S (some (.int (sB i k))) S := by
  refine RT_ofQ ⟨rfl, rfl⟩ (Nat.le_of_ble_eq_true rfl) (fun sz Q hQ => ?_)
  obtain ⟨e1, c, hc, e2⟩ := sB_ok i hi8 k hk
  refine J_aload_n (pc := 0) dJ0_charAt_5068e_0 rfl ?_
  refine J_cvr (pc := 1) (N := mJ0_isLatin1_aae02) dJ0_charAt_5068e_1 ml_J0_492 cf_J0_isLatin1_aae02 cv_J0_isLatin1_aae02 (r_J0_isLatin1_aae02 hi8) rfl rfl (Nat.le_of_ble_eq_true rfl) (by decide) (Or.inr ⟨rfl, Nat.le_add_right _ _, Nat.add_lt_add_left hi8 _⟩) ?_
  refine J_if_eq (pc := 4) (tgt := 16) dJ0_charAt_5068e_4 (by decide) (fun c4 => absurd c4 (by decide)) (fun c4 => ?_)
  refine J_aload_n (pc := 7) dJ0_charAt_5068e_7 rfl ?_
  refine J_sval (pc := 8) hi8 dJ0_charAt_5068e_8 fs_J0_9 ?_
  refine J_iload_n (pc := 11) dJ0_charAt_5068e_11 rfl ?_
  refine J_csr (pc := 12) (N := mJ1_charAt_3b067) dJ0_charAt_5068e_12 ml_J0_495 cf_J1_charAt_3b067 cs_J1_charAt_3b067 (r_J1_charAt_3b067 hi8 hk) rfl rfl (Nat.le_of_ble_eq_true rfl) (by decide) ?_
  exact J_iret (pc := 15) rfl rfl (by rw [e2]; exact nar_c c hc) dJ0_charAt_5068e_15 (rq hQ rfl rfl)
theorem r_J1_canEncode_9a6ad {g : Gp} {S : Sx} {c : Nat} (hc : c < 256) : RT g mJ1_canEncode_9a6ad 0 [.int (nI c)] S (some (.int 1)) S := by
  refine RT_ofQ ⟨rfl, rfl⟩ (Nat.le_of_ble_eq_true rfl) (fun sz Q hQ => ?_)
  refine J_iload_n (pc := 0) dJ1_canEncode_9a6ad_0 rfl ?_
  refine J_if_lt (pc := 1) (tgt := 15) dJ1_canEncode_9a6ad_1 (by decide) (fun c1 => absurd c1 (nI_pos (by omega))) (fun c1 => ?_)
  refine J_iload_n (pc := 4) dJ1_canEncode_9a6ad_4 rfl ?_
  refine J_sipush (pc := 5) (v := 255) dJ1_canEncode_9a6ad_5 (by decide) ?_
  refine J_icmp_gt (pc := 8) (tgt := 15) dJ1_canEncode_9a6ad_8 (by decide) (fun c8 => absurd c8 (Int32.not_lt.mpr (nI_le (b := 255) (by omega) (by decide)))) (fun c8 => ?_)
  refine J_iconst (pc := 11) (v := 1) dJ1_canEncode_9a6ad_11 (by decide) ?_
  refine J_goto (pc := 12) (tgt := 16) dJ1_canEncode_9a6ad_12 (by decide) ?_
  exact J_iret (pc := 16) rfl rfl rfl dJ1_canEncode_9a6ad_16 (rq hQ rfl rfl)
theorem r_J1_indexOfChar_4cfef {g : Gp} {S : Sx} {i : Nat} (hi8 : i < 8) {c : Nat} : RT g mJ1_indexOfChar_4cfef 0 [.ref (SB + 100 + i), .int (nI c), .int 0, .int (nI (sN i))] S (some (.int (fst1 (fun k => decide (sB i k = (nI c).toInt8.toInt32)) (sN i)))) S := by
  refine RT_ofQ ⟨rfl, rfl⟩ (Nat.le_of_ble_eq_true rfl) (fun sz Q hQ => ?_)
  have h100 := sN_le i hi8
  refine J_iload_n (pc := 0) dJ1_indexOfChar_4cfef_0 rfl ?_
  refine J_i2b (pc := 1) dJ1_indexOfChar_4cfef_1 ?_
  refine J_istore (pc := 2) dJ1_indexOfChar_4cfef_2 (by decide) rfl ?_
  refine J_iload_n (pc := 4) dJ1_indexOfChar_4cfef_4 rfl ?_
  refine J_istore (pc := 5) dJ1_indexOfChar_4cfef_5 (by decide) rfl ?_
  refine dn_ind (n := sN i) (P := fun j => (∀ q, q < j → ¬ (fun k => decide (sB i k = (nI c).toInt8.toInt32)) q = true) → J g mJ1_indexOfChar_4cfef 0 [] 7 [some (.ref (SB + 100 + i)), some (.int (nI c)), some (.int 0), some (.int (nI (sN i))), some (.int (nI c).toInt8.toInt32), some (.int (ix j))] [] (hs S) sz 0 0 Q) ?_ (fun j hj ih => ?_) 0 (Nat.zero_le _) (fun q h => by omega)
  · intro hno
    refine J_iload (pc := 7) dJ1_indexOfChar_4cfef_7 rfl ?_
    refine J_iload_n (pc := 9) dJ1_indexOfChar_4cfef_9 rfl ?_
    refine J_icmp_ge (pc := 10) (tgt := 31) dJ1_indexOfChar_4cfef_10 (by decide) (fun c10 => ?_) (fun c10 => absurd (ix_ge rfl) c10)
    refine J_iconst (pc := 31) (v := -1) dJ1_indexOfChar_4cfef_31 (by decide) ?_
    exact J_iret (pc := 32) rfl rfl rfl dJ1_indexOfChar_4cfef_32 (rq hQ (fst1_no hno).symm rfl)
  · intro hno
    refine J_iload (pc := 7) dJ1_indexOfChar_4cfef_7 rfl ?_
    refine J_iload_n (pc := 9) dJ1_indexOfChar_4cfef_9 rfl ?_
    refine J_icmp_ge (pc := 10) (tgt := 31) dJ1_indexOfChar_4cfef_10 (by decide) (fun c10 => absurd c10 (ix_lt rfl hj (by omega))) (fun c10 => ?_)
    refine J_aload_n (pc := 13) dJ1_indexOfChar_4cfef_13 rfl ?_
    refine J_iload (pc := 14) dJ1_indexOfChar_4cfef_14 rfl ?_
    refine J_sbl (pc := 16) hi8 dJ1_indexOfChar_4cfef_16 (ix_nI j) hj ?_
    refine J_iload (pc := 17) dJ1_indexOfChar_4cfef_17 rfl ?_
    refine J_icmp_ne (pc := 19) (tgt := 25) dJ1_indexOfChar_4cfef_19 (by decide) (fun c19 => ?_) (fun c19 => ?_)
    · refine J_iinc (pc := 25) (v := 1) dJ1_indexOfChar_4cfef_25 rfl (by decide) rfl ?_
      refine J_goto (pc := 28) (tgt := 7) dJ1_indexOfChar_4cfef_28 (by decide) ?_
      refine ih (fun q hq => ?_)
      by_cases e : q < j
      · exact hno q e
      · rw [show q = j by omega]; exact fun z => c19 (of_decide_eq_true z)
    · refine J_iload (pc := 22) dJ1_indexOfChar_4cfef_22 rfl ?_
      exact J_iret (pc := 24) rfl rfl rfl dJ1_indexOfChar_4cfef_24 (rq hQ (by rw [fst1_at (p := (fun k => decide (sB i k = (nI c).toInt8.toInt32))) (decide_eq_true c19) (by omega) hno hj, ix_nI]) rfl)
theorem r_J1_indexOf_4cfef {g : Gp} {S : Sx} {i : Nat} (hi8 : i < 8) {c : Nat} (hc : c < 256) (h0 : 0 < sN i) : RT g mJ1_indexOf_4cfef 1 [.ref (SB + 100 + i), .int (nI c), .int 0, .int (nI (sN i))] S (some (.int (fst1 (fun k => decide (sB i k = (nI c).toInt8.toInt32)) (sN i)))) S := by
  refine RT_ofQ ⟨rfl, rfl⟩ (Nat.le_of_ble_eq_true rfl) (fun sz Q hQ => ?_)
  have h100 := sN_le i hi8
  refine J_iload_n (pc := 0) dJ1_indexOf_4cfef_0 rfl ?_
  refine J_csr (pc := 1) (N := mJ1_canEncode_9a6ad) dJ1_indexOf_4cfef_1 ml_J1_88 cf_J1_canEncode_9a6ad cs_J1_canEncode_9a6ad (r_J1_canEncode_9a6ad hc) rfl rfl (Nat.le_of_ble_eq_true rfl) (by decide) ?_
  refine J_if_ne (pc := 4) (tgt := 9) dJ1_indexOf_4cfef_4 (by decide) (fun c4 => ?_) (fun c4 => absurd c4 (by decide))
  refine J_iload_n (pc := 9) dJ1_indexOf_4cfef_9 rfl ?_
  refine J_iconst (pc := 10) (v := 0) dJ1_indexOf_4cfef_10 (by decide) ?_
  refine J_mmax (pc := 11) dJ1_indexOf_4cfef_11 ml_J1_92 (Nat.le_of_ble_eq_true rfl) ?_
  refine J_t1 (y := 0) (by decide) ?_
  refine J_istore_n (pc := 14) dJ1_indexOf_4cfef_14 (by decide) rfl ?_
  refine J_iload_n (pc := 15) dJ1_indexOf_4cfef_15 rfl ?_
  refine J_aload_n (pc := 16) dJ1_indexOf_4cfef_16 rfl ?_
  refine J_slen (pc := 17) hi8 dJ1_indexOf_4cfef_17 ?_
  refine J_mmin (pc := 18) dJ1_indexOf_4cfef_18 ml_J1_38 (Nat.le_of_ble_eq_true rfl) ?_
  refine J_t1 (y := nI (sN i)) (by rw [ite_self]) ?_
  refine J_istore_n (pc := 21) dJ1_indexOf_4cfef_21 (by decide) rfl ?_
  refine J_iload_n (pc := 22) dJ1_indexOf_4cfef_22 rfl ?_
  refine J_iload_n (pc := 23) dJ1_indexOf_4cfef_23 rfl ?_
  refine J_icmp_lt (pc := 24) (tgt := 29) dJ1_indexOf_4cfef_24 (by decide) (fun c24 => ?_) (fun c24 => absurd (nI_lt h0 (by omega)) c24)
  refine J_aload_n (pc := 29) dJ1_indexOf_4cfef_29 rfl ?_
  refine J_iload_n (pc := 30) dJ1_indexOf_4cfef_30 rfl ?_
  refine J_iload_n (pc := 31) dJ1_indexOf_4cfef_31 rfl ?_
  refine J_iload_n (pc := 32) dJ1_indexOf_4cfef_32 rfl ?_
  refine J_csr (pc := 33) (N := mJ1_indexOfChar_4cfef) dJ1_indexOf_4cfef_33 ml_J1_95 cf_J1_indexOfChar_4cfef cs_J1_indexOfChar_4cfef (r_J1_indexOfChar_4cfef hi8) rfl rfl (Nat.le_of_ble_eq_true rfl) (by decide) ?_
  exact J_iret (pc := 36) rfl rfl rfl dJ1_indexOf_4cfef_36 (rq hQ rfl rfl)
theorem r_J0_indexOf_7cf53 {g : Gp} {S : Sx} {i : Nat} (hi8 : i < 8) {c : Nat} (hc : c < 256) (h0 : 0 < sN i) : RT g mJ0_indexOf_7cf53 2 [.ref (SB + i), .int (nI c), .int 0] S (some (.int (fst1 (fun k => decide (sB i k = (nI c).toInt8.toInt32)) (sN i)))) S := by
  refine RT_ofQ ⟨rfl, rfl⟩ (Nat.le_of_ble_eq_true rfl) (fun sz Q hQ => ?_)
  refine J_aload_n (pc := 0) dJ0_indexOf_7cf53_0 rfl ?_
  refine J_cvr (pc := 1) (N := mJ0_isLatin1_aae02) dJ0_indexOf_7cf53_1 ml_J0_492 cf_J0_isLatin1_aae02 cv_J0_isLatin1_aae02 (r_J0_isLatin1_aae02 hi8) rfl rfl (Nat.le_of_ble_eq_true rfl) (by decide) (Or.inr ⟨rfl, Nat.le_add_right _ _, Nat.add_lt_add_left hi8 _⟩) ?_
  refine J_if_eq (pc := 4) (tgt := 23) dJ0_indexOf_7cf53_4 (by decide) (fun c4 => absurd c4 (by decide)) (fun c4 => ?_)
  refine J_aload_n (pc := 7) dJ0_indexOf_7cf53_7 rfl ?_
  refine J_sval (pc := 8) hi8 dJ0_indexOf_7cf53_8 fs_J0_9 ?_
  refine J_iload_n (pc := 11) dJ0_indexOf_7cf53_11 rfl ?_
  refine J_iload_n (pc := 12) dJ0_indexOf_7cf53_12 rfl ?_
  refine J_aload_n (pc := 13) dJ0_indexOf_7cf53_13 rfl ?_
  refine J_cvr (pc := 14) (N := mJ0_length_8abf5) dJ0_indexOf_7cf53_14 ml_J0_505 cf_J0_length_8abf5 cv_J0_length_8abf5 (r_J0_length_8abf5 hi8) rfl rfl (Nat.le_of_ble_eq_true rfl) (by decide) (Or.inr ⟨rfl, Nat.le_add_right _ _, Nat.add_lt_add_left hi8 _⟩) ?_
  refine J_csr (pc := 17) (N := mJ1_indexOf_4cfef) dJ0_indexOf_7cf53_17 ml_J0_637 cf_J1_indexOf_4cfef cs_J1_indexOf_4cfef (r_J1_indexOf_4cfef hi8 hc h0) rfl rfl (Nat.le_of_ble_eq_true rfl) (by decide) ?_
  refine J_goto (pc := 20) (tgt := 36) dJ0_indexOf_7cf53_20 (by decide) ?_
  exact J_iret (pc := 36) rfl rfl rfl dJ0_indexOf_7cf53_36 (rq hQ rfl rfl)
theorem r_J0_indexOf_0f7a4 {g : Gp} {S : Sx} {i : Nat} (hi8 : i < 8) {c : Nat} (hc : c < 256) (h0 : 0 < sN i) : RT g mJ0_indexOf_0f7a4 3 [.ref (SB + i), .int (nI c)] S (some (.int (fst1 (fun k => decide (sB i k = (nI c).toInt8.toInt32)) (sN i)))) S := by
  refine RT_ofQ ⟨rfl, rfl⟩ (Nat.le_of_ble_eq_true rfl) (fun sz Q hQ => ?_)
  refine J_aload_n (pc := 0) dJ0_indexOf_0f7a4_0 rfl ?_
  refine J_iload_n (pc := 1) dJ0_indexOf_0f7a4_1 rfl ?_
  refine J_iconst (pc := 2) (v := 0) dJ0_indexOf_0f7a4_2 (by decide) ?_
  refine J_cvr (pc := 3) (N := mJ0_indexOf_7cf53) dJ0_indexOf_0f7a4_3 ml_J0_633 cf_J0_indexOf_7cf53 cv_J0_indexOf_7cf53 (r_J0_indexOf_7cf53 hi8 hc h0) rfl rfl (Nat.le_of_ble_eq_true rfl) (by decide) (Or.inr ⟨rfl, Nat.le_add_right _ _, Nat.add_lt_add_left hi8 _⟩) ?_
  exact J_iret (pc := 6) rfl rfl rfl dJ0_indexOf_0f7a4_6 (rq hQ rfl rfl)

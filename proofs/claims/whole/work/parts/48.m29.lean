/-! ===== the model's reading of a law ===== -/
theorem r_nt {g : Gp} {S : Sx} {s : LgS} {w v : Nat} (hf : s.1.2.1 ≤ 3) (h6 : s.1.2.1 = 0 → s.2.length < 160) : RT g mX11_notes 0 [.ref 59, .int (nI w), .int (nI v)] (lS S s) none (lS S (nt w v s)) := by
  refine RT_ofQ ⟨rfl, rfl⟩ (Nat.le_of_ble_eq_true rfl) (fun sz Q hQ => ?_)
  by_cases q : s.1.2.1 = 0
  · have hl := h6 q
    have e : nt w v s = (s.1, s.2 ++ [(w, v)]) := by unfold nt; rw [if_pos q]
    rw [e] at hQ
    have ee : sF (sA (sA (lS S s) (270 + s.2.length) 0 (nI w)) (270 + s.2.length) 1 (nI v)) 59 22 (nI (s.2.length + 1)) = lS S (s.1, s.2 ++ [(w, v)]) := by
      show sF (ps (sA (sA (rlS S s.2) (270 + s.2.length) 0 (nI w)) (270 + s.2.length) 1 (nI v)) s.1) 59 22 _ = _
      rw [ps_sF _ _ (by decide) (by decide) (by decide), rl_app]
      rfl
    refine J_aload_n (pc := 0) dX11_notes_0 rfl ?_
    refine J_geti (pc := 1) dX11_notes_1 kc11 fl_X11_119 rfl ?_
    refine J_if_eq (pc := 4) (tgt := 8) dX11_notes_4 (by decide) (fun c4 => ?_) (fun c4 => absurd (show nI s.1.2.1 = 0 by rw [q]; rfl) c4)
    refine J_aload_n (pc := 8) dX11_notes_8 rfl ?_
    refine J_getr (pc := 9) dX11_notes_9 kc11 fl_X11_55 rfl ?_
    refine J_aload_n (pc := 12) dX11_notes_12 rfl ?_
    refine J_geti (pc := 13) dX11_notes_13 kc11 fl_X11_215 rfl ?_
    refine J_ar1 (pc := 16) dX11_notes_16 rfl rfl ⟨by first | decide | omega, by decide⟩ ?_
    refine J_iconst (pc := 17) (v := 0) dX11_notes_17 (by decide) ?_
    refine J_iload_n (pc := 18) dX11_notes_18 rfl ?_
    refine J_is (pc := 19) dX11_notes_19 (lay_readLaw (by omega)) (rfl : (0 : Int32) = nI 0) ⟨by first | decide | omega, by decide⟩ ?_
    refine J_aload_n (pc := 20) dX11_notes_20 rfl ?_
    refine J_getr (pc := 21) dX11_notes_21 kc11 fl_X11_55 rfl ?_
    refine J_aload_n (pc := 24) dX11_notes_24 rfl ?_
    refine J_geti (pc := 25) dX11_notes_25 kc11 fl_X11_215 rfl ?_
    refine J_ar1 (pc := 28) dX11_notes_28 rfl rfl ⟨by first | decide | omega, by decide⟩ ?_
    refine J_iconst (pc := 29) (v := 1) dX11_notes_29 (by decide) ?_
    refine J_iload_n (pc := 30) dX11_notes_30 rfl ?_
    refine J_is (pc := 31) dX11_notes_31 (lay_readLaw (by omega)) (rfl : (1 : Int32) = nI 1) ⟨by first | decide | omega, by decide⟩ ?_
    refine J_aload_n (pc := 32) dX11_notes_32 rfl ?_
    refine J_dup (pc := 33) dX11_notes_33 rfl ?_
    refine J_geti (pc := 34) dX11_notes_34 kc11 fl_X11_215 rfl ?_
    refine J_iconst (pc := 37) (v := 1) dX11_notes_37 (by decide) ?_
    refine J_iadd (pc := 38) dX11_notes_38 ?_
    refine J_t1 (y := nI (s.2.length + 1)) (nI_1 _) ?_
    refine J_puti (pc := 39) dX11_notes_39 kc11 fl_X11_215 rfl ⟨rfl, rfl⟩ ?_
    refine J_cg2 ee ?_
    exact J_ret (pc := 42) rfl rfl dX11_notes_42 (rqv hQ rfl)
  · have e : nt w v s = s := by unfold nt; rw [if_neg q]
    rw [e] at hQ
    refine J_aload_n (pc := 0) dX11_notes_0 rfl ?_
    refine J_geti (pc := 1) dX11_notes_1 kc11 fl_X11_119 rfl ?_
    refine J_if_eq (pc := 4) (tgt := 8) dX11_notes_4 (by decide) (fun c4 => absurd c4 (fun z => q ((nI_z hf).mp z))) (fun c4 => ?_)
    exact J_ret (pc := 7) rfl rfl dX11_notes_7 (rqv hQ rfl)
def LP0 (g : Gp) (n : Nat) (cc : Nat → Nat) (f : Nat) : Prop := ∀ (S : Sx) (op : Nat) (s r : LgS), TX S n cc → sf S 59 8 = nI op → op ≤ 6 → LI n s → lp cc n f 0 op s = some r → RT g mX11_sum (3 * (7 - op) + 10) [.ref 59] (lS S s) none (lS S r)
def LP1 (g : Gp) (n : Nat) (cc : Nat → Nat) (f : Nat) : Prop := ∀ (S : Sx) (op : Nat) (s r : LgS), TX S n cc → sf S 59 8 = nI op → op ≤ 6 → LI n s → lp cc n f 1 op s = some r → RT g mX11_product (3 * (7 - op) + 9) [.ref 59] (lS S s) none (lS S r)
def LP2 (g : Gp) (n : Nat) (cc : Nat → Nat) (f : Nat) : Prop := ∀ (S : Sx) (op : Nat) (s r : LgS), TX S n cc → sf S 59 8 = nI op → op ≤ 6 → LI n s → lp cc n f 2 op s = some r → RT g mX11_one (3 * (7 - op) + 8) [.ref 59] (lS S s) none (lS S r)
def LP3 (g : Gp) (n : Nat) (cc : Nat → Nat) (f : Nat) : Prop := ∀ (S : Sx) (op : Nat) (s r : LgS), TX S n cc → sf S 59 8 = nI op → op ≤ 6 → LI n s → lp cc n f 3 op s = some r → ∀ (sz : Nat) (Q : Po), Q (.inl none) (hs (lS S r)) sz → J g mX11_sum (3 * (7 - op) + 10) [] 4 [some (.ref 59), none] [] (hs (lS S s)) sz 0 0 Q
def LP4 (g : Gp) (n : Nat) (cc : Nat → Nat) (f : Nat) : Prop := ∀ (S : Sx) (op : Nat) (s r : LgS), TX S n cc → sf S 59 8 = nI op → op ≤ 6 → LI n s → lp cc n f 4 op s = some r → ∀ (sz : Nat) (Q : Po), Q (.inl none) (hs (lS S r)) sz → J g mX11_product (3 * (7 - op) + 9) [] 4 [some (.ref 59), none] [] (hs (lS S s)) sz 0 0 Q
theorem lp_s0 {g : Gp} {n : Nat} {cc : Nat → Nat} {f : Nat} (i1 : LP1 g n cc f) (i3 : LP3 g n cc f) : LP0 g n cc (f + 1) := by
    · intro S op s r hx hop h6 hI h
      obtain ⟨s1, h1, h2⟩ := Option.bind_eq_some_iff.mp (show lpSum (lp cc n f) op s = some r from h)
      have a1 := LT_lp hx f 1 op s s1 hI.1 h1
      refine RT_ofQ ⟨rfl, rfl⟩ (Nat.le_of_ble_eq_true rfl) (fun sz Q hQ => ?_)
      refine J_aload_n (pc := 0) dX11_sum_0 rfl ?_
      refine J_cvv (pc := 1) (N := mX11_product) dX11_sum_1 ml_X11_218 cf_X11_product cv_X11_product (i1 S op s s1 hx hop h6 hI h1) rfl rfl (Nat.le_of_ble_eq_true rfl) (by omega) (rv_of (ci := 11) rfl rfl rfl) ?_
      exact i3 S op s1 r hx hop h6 (LT_LI a1 hI) h2 sz Q hQ
theorem lp_s1 {g : Gp} {n : Nat} {cc : Nat → Nat} {f : Nat} (i2 : LP2 g n cc f) (i4 : LP4 g n cc f) : LP1 g n cc (f + 1) := by
    · intro S op s r hx hop h6 hI h
      obtain ⟨s1, h1, h2⟩ := Option.bind_eq_some_iff.mp (show lpPrd (lp cc n f) op s = some r from h)
      have a1 := LT_lp hx f 2 op s s1 hI.1 h1
      refine RT_ofQ ⟨rfl, rfl⟩ (Nat.le_of_ble_eq_true rfl) (fun sz Q hQ => ?_)
      refine J_aload_n (pc := 0) dX11_product_0 rfl ?_
      refine J_cvv (pc := 1) (N := mX11_one) dX11_product_1 ml_X11_227 cf_X11_one cv_X11_one (i2 S op s s1 hx hop h6 hI h1) rfl rfl (Nat.le_of_ble_eq_true rfl) (by omega) (rv_of (ci := 11) rfl rfl rfl) ?_
      exact i4 S op s1 r hx hop h6 (LT_LI a1 hI) h2 sz Q hQ
set_option maxHeartbeats 4000000 in
theorem lpo_par {g : Gp} {n : Nat} {cc : Nat → Nat} {f : Nat} (h150 : n ≤ 150) (i0 : LP0 g n cc f) {S : Sx} {op b u : Nat} {s r : LgS} (hx : TX S n cc) (hop : sf S 59 8 = nI op) (h6 : op ≤ 6) (hI : LI n s) (q : s.1.2.1 = 0) (hbl : b ≤ n) (hbg : s.1.1 ≤ b) (hbb : pbl cc n b = b) (hu : u = s.1.2.2) (w0 : wIs cc n b [108, 101, 97, 115, 116] = false) (w1 : wIs cc n b [109, 111, 115, 116] = false) (h : (match wix cc n b wLM 7 with | some k => if op = 6 then some (((b, 3, b), s.2) : LgS) else (lp cc n f 0 (op + 1) (lsg cc n 91 ((pwe cc n b, 0, u), s.2))).bind fun s1 => (lp cc n f 0 (op + 1) (lsg cc n 44 s1)).bind fun s2 => some (nt k 0 (lsg cc n 93 s2)) | none => if cc b = 40 then (if op = 6 then some ((b, 3, b), s.2) else (lp cc n f 0 (op + 1) ((b + 1, 0, u), s.2)).bind fun s1 => some (lsg cc n 41 s1)) else match wix cc n b wLaw 0 with | some k => some (nt 1 k ((pwe cc n b, 0, u), s.2)) | none => some (nt 0 (pnum cc n 0 1000 (b, 0, u)).1 ((pnum cc n 0 1000 (b, 0, u)).2, s.2))) = some r) {sz : Nat} {Q : Po} (hQ : Q (.inl none) (hs (lS S r)) sz) : J g mX11_one (3 * (7 - op) + 8) [] 117 [some (.ref 59), some (.int (-1)), none] [] (hs (ps (rlS S s.2) (b, 0, u))) sz 0 0 Q := by
  have hn6 := hx.2.1
  have hpo := hI.1
  have wk : wix cc n b wLM 7 = none := (wix_f w0).trans ((wix_f w1).trans rfl)
  rw [wk] at h
  have h : (if cc b = 40 then (if op = 6 then some (((b, 3, b), s.2) : LgS) else (lp cc n f 0 (op + 1) ((b + 1, 0, u), s.2)).bind fun s1 => some (lsg cc n 41 s1)) else match wix cc n b wLaw 0 with | some k => some (nt 1 k ((pwe cc n b, 0, u), s.2)) | none => some (nt 0 (pnum cc n 0 1000 (b, 0, u)).1 ((pnum cc n 0 1000 (b, 0, u)).2, s.2))) = some r := h
  by_cases q4 : cc b = 40
  · rw [if_pos q4] at h
    by_cases qo : op = 6
    · rw [if_pos qo] at h
      cases h
      refine J_aload_n (pc := 117) dX11_one_117 rfl ?_
      refine J_aload_n (pc := 118) dX11_one_118 rfl ?_
      refine J_geti (pc := 119) dX11_one_119 kc11 fl_X11_112 rfl ?_
      refine J_cvr (pc := 122) (N := mX11_byteAt) dX11_one_122 ml_X11_115 cf_X11_byteAt cv_X11_byteAt (r_X11_byteAt (S := ps (rlS S s.2) (b, 0, u)) (k := b) (n := n) (cc := cc) hx (by omega)) rfl rfl (Nat.le_of_ble_eq_true rfl) (by omega) (rv_of (ci := 11) rfl rfl rfl) ?_
      refine J_bipush (pc := 125) (v := 40) dX11_one_125 (by decide) ?_
      refine J_icmp_ne (pc := 127) (tgt := 169) dX11_one_127 (by decide) (fun c127 => absurd ((bv_eq (d := 40) (TX_le hx b) (by decide)).mpr q4) c127) (fun c127 => ?_)
      refine J_aload_n (pc := 130) dX11_one_130 rfl ?_
      refine J_cvr (pc := 131) (N := mX11_opensOne) dX11_one_131 ml_X11_236 cf_X11_opensOne cv_X11_opensOne (r_X11_opensOne_no (S := rlS S s.2) (a := b) (h := u) (by show sf S 59 8 = 6; rw [hop, qo]; rfl)) rfl rfl (Nat.le_of_ble_eq_true rfl) (by omega) (rv_of (ci := 11) rfl rfl rfl) ?_
      refine J_if_ne (pc := 134) (tgt := 138) dX11_one_134 (by decide) (fun c134 => absurd rfl c134) (fun c134 => ?_)
      exact J_ret (pc := 137) rfl rfl dX11_one_137 hQ
    · rw [if_neg qo] at h
      obtain ⟨s1, h1, h2⟩ := Option.bind_eq_some_iff.mp h
      cases h2
      have ho6 : op < 6 := by omega
      have hlt := cc_lt hx q4 (by decide)
      have p0 : PO n ((b + 1, 0, u) : PT) := ⟨hlt, by show 0 ≤ 3; omega, by rw [hu]; exact hpo.2.2⟩
      have l0 : LI n (((b + 1, 0, u), s.2) : LgS) := ⟨p0, fun _ => by have := hI.2 q; show s.2.length ≤ b + 1; omega⟩
      have t1 := LT_lp hx f 0 (op + 1) _ s1 p0 h1
      have hx2 : TX (sF S 59 8 (nI (op + 1))) n cc := hx
      refine J_aload_n (pc := 117) dX11_one_117 rfl ?_
      refine J_aload_n (pc := 118) dX11_one_118 rfl ?_
      refine J_geti (pc := 119) dX11_one_119 kc11 fl_X11_112 rfl ?_
      refine J_cvr (pc := 122) (N := mX11_byteAt) dX11_one_122 ml_X11_115 cf_X11_byteAt cv_X11_byteAt (r_X11_byteAt (S := ps (rlS S s.2) (b, 0, u)) (k := b) (n := n) (cc := cc) hx (by omega)) rfl rfl (Nat.le_of_ble_eq_true rfl) (by omega) (rv_of (ci := 11) rfl rfl rfl) ?_
      refine J_bipush (pc := 125) (v := 40) dX11_one_125 (by decide) ?_
      refine J_icmp_ne (pc := 127) (tgt := 169) dX11_one_127 (by decide) (fun c127 => absurd ((bv_eq (d := 40) (TX_le hx b) (by decide)).mpr q4) c127) (fun c127 => ?_)
      refine J_aload_n (pc := 130) dX11_one_130 rfl ?_
      refine J_cvr (pc := 131) (N := mX11_opensOne) dX11_one_131 ml_X11_236 cf_X11_opensOne cv_X11_opensOne (r_X11_opensOne (S := rlS S s.2) (a := b) (h := u) (k := op) hop ho6) rfl rfl (Nat.le_of_ble_eq_true rfl) (by omega) (rv_of (ci := 11) rfl rfl rfl) ?_
      refine J_cg2 (S' := ps (rlS (sF S 59 8 (nI (op + 1))) s.2) (b, 0, u)) (by rw [rl_F8]) ?_
      refine J_if_ne (pc := 134) (tgt := 138) dX11_one_134 (by decide) (fun c134 => ?_) (fun c134 => absurd c134 (by decide))
      refine J_aload_n (pc := 138) dX11_one_138 rfl ?_
      refine J_dup (pc := 139) dX11_one_139 rfl ?_
      refine J_geti (pc := 140) dX11_one_140 kc11 fl_X11_112 rfl ?_
      refine J_iconst (pc := 143) (v := 1) dX11_one_143 (by decide) ?_
      refine J_iadd (pc := 144) dX11_one_144 ?_
      refine J_t1 (nI_1 b) ?_
      refine J_puti (pc := 145) dX11_one_145 kc11 fl_X11_112 rfl ⟨rfl, rfl⟩ ?_
      refine J_cg2 (ps_at (rlS (sF S 59 8 (nI (op + 1))) s.2) (b, 0, u) (b + 1)) ?_
      refine J_aload_n (pc := 148) dX11_one_148 rfl ?_
      refine J_cg2 (S' := lS (sF S 59 8 (nI (op + 1))) ((b + 1, 0, u), s.2)) rfl ?_
      refine J_cvv (pc := 149) (N := mX11_sum) dX11_one_149 ml_X11_239 cf_X11_sum cv_X11_sum (i0 (sF S 59 8 (nI (op + 1))) (op + 1) ((b + 1, 0, u), s.2) s1 hx2 rfl (by omega) l0 h1) rfl rfl (Nat.le_of_ble_eq_true rfl) (by omega) (rv_of (ci := 11) rfl rfl rfl) ?_
      refine J_aload_n (pc := 152) dX11_one_152 rfl ?_
      refine J_bipush (pc := 153) (v := 41) dX11_one_153 (by decide) ?_
      refine J_cvv (pc := 155) (N := mX11_sign) dX11_one_155 ml_X11_179 cf_X11_sign cv_X11_sign (r_X11_sign (S := rlS (sF S 59 8 (nI (op + 1))) s1.2) (t := s1.1) (c := 41) hx2 t1.1 (by decide)) rfl rfl (Nat.le_of_ble_eq_true rfl) (by omega) (rv_of (ci := 11) rfl rfl rfl) ?_
      refine J_aload_n (pc := 158) dX11_one_158 rfl ?_
      refine J_dup (pc := 159) dX11_one_159 rfl ?_
      refine J_geti (pc := 160) dX11_one_160 kc11 fl_X11_162 rfl ?_
      refine J_iconst (pc := 163) (v := 1) dX11_one_163 (by decide) ?_
      refine J_isub (pc := 164) dX11_one_164 ?_
      refine J_t1 (y := nI op) (nI_pred op) ?_
      refine J_puti (pc := 165) dX11_one_165 kc11 fl_X11_162 rfl ⟨rfl, rfl⟩ ?_
      refine J_cg2 (lS_back (s := lsg cc n 41 s1) hop _) ?_
      exact J_ret (pc := 168) rfl rfl dX11_one_168 hQ
  · rw [if_neg q4] at h
    cases wl : wix cc n b wLaw 0
    · rw [wl] at h
      cases h
      have p0 : PO n ((b, 0, u) : PT) := ⟨hbl, by show 0 ≤ 3; omega, by rw [hu]; exact hpo.2.2⟩
      have p1 := PO_num hx p0 0 1000
      have hlen : (pnum cc n 0 1000 (b, 0, u)).2.2.1 = 0 → s.2.length < 160 := fun _ => by have := hI.2 q; have := hpo.1; omega
      refine J_aload_n (pc := 117) dX11_one_117 rfl ?_
      refine J_aload_n (pc := 118) dX11_one_118 rfl ?_
      refine J_geti (pc := 119) dX11_one_119 kc11 fl_X11_112 rfl ?_
      refine J_cvr (pc := 122) (N := mX11_byteAt) dX11_one_122 ml_X11_115 cf_X11_byteAt cv_X11_byteAt (r_X11_byteAt (S := ps (rlS S s.2) (b, 0, u)) (k := b) (n := n) (cc := cc) hx (by omega)) rfl rfl (Nat.le_of_ble_eq_true rfl) (by omega) (rv_of (ci := 11) rfl rfl rfl) ?_
      refine J_bipush (pc := 125) (v := 40) dX11_one_125 (by decide) ?_
      refine J_icmp_ne (pc := 127) (tgt := 169) dX11_one_127 (by decide) (fun c127 => ?_) (fun c127 => absurd c127 (fun z => q4 ((bv_eq (d := 40) (TX_le hx b) (by decide)).mp z)))
      refine J_aload_n (pc := 169) dX11_one_169 rfl ?_
      refine J_cvr (pc := 170) (N := mX11_knownHere) dX11_one_170 ml_X11_242 cf_X11_knownHere cv_X11_knownHere (r_X11_knownHere (S := rlS S s.2) (a := b) (b := b) (h := u) hx hbl hbb) rfl rfl (Nat.le_of_ble_eq_true rfl) (by omega) (rv_of (ci := 11) rfl rfl rfl) ?_
      refine J_t1 (y := -1) (by rw [wl]; rfl) ?_
      refine J_cg2 (S' := ps (rlS S s.2) (b, 0, u)) (ps_same (by rw [wl]; rfl)) ?_
      refine J_istore_n (pc := 173) dX11_one_173 (by decide) rfl ?_
      refine J_iload_n (pc := 174) dX11_one_174 rfl ?_
      refine J_iconst (pc := 175) (v := -1) dX11_one_175 (by decide) ?_
      refine J_icmp_eq (pc := 176) (tgt := 188) dX11_one_176 (by decide) (fun c176 => ?_) (fun c176 => absurd rfl c176)
      refine J_aload_n (pc := 188) dX11_one_188 rfl ?_
      refine J_iconst (pc := 189) (v := 0) dX11_one_189 (by decide) ?_
      refine J_aload_n (pc := 190) dX11_one_190 rfl ?_
      refine J_iconst (pc := 191) (v := 0) dX11_one_191 (by decide) ?_
      refine J_sipush (pc := 192) (v := 999) dX11_one_192 (by decide) ?_
      refine J_cvr (pc := 195) (N := mX11_number) dX11_one_195 ml_X11_175 cf_X11_number cv_X11_number (r_X11_number (S := rlS S s.2) (t := (b, 0, u)) (lo := 0) (hi := 1000) hx p0 rfl rfl (by decide) (by decide)) rfl rfl (Nat.le_of_ble_eq_true rfl) (by omega) (rv_of (ci := 11) rfl rfl rfl) ?_
      refine J_cvv (pc := 198) (N := mX11_notes) dX11_one_198 ml_X11_224 cf_X11_notes cv_X11_notes (r_nt (S := S) (s := ((pnum cc n 0 1000 (b, 0, u)).2, s.2)) (w := 0) (v := (pnum cc n 0 1000 (b, 0, u)).1) p1.2.1 hlen) rfl rfl (Nat.le_of_ble_eq_true rfl) (by omega) (rv_of (ci := 11) rfl rfl rfl) ?_
      exact J_ret (pc := 201) rfl rfl dX11_one_201 hQ
    · next k =>
      rw [wl] at h
      cases h
      have hk8 := (wix_lt wl).2
      have hk8 : k < 0 + 8 := hk8
      have hlen : (0 : Nat) = 0 → s.2.length < 160 := fun _ => by have := hI.2 q; have := hpo.1; omega
      refine J_aload_n (pc := 117) dX11_one_117 rfl ?_
      refine J_aload_n (pc := 118) dX11_one_118 rfl ?_
      refine J_geti (pc := 119) dX11_one_119 kc11 fl_X11_112 rfl ?_
      refine J_cvr (pc := 122) (N := mX11_byteAt) dX11_one_122 ml_X11_115 cf_X11_byteAt cv_X11_byteAt (r_X11_byteAt (S := ps (rlS S s.2) (b, 0, u)) (k := b) (n := n) (cc := cc) hx (by omega)) rfl rfl (Nat.le_of_ble_eq_true rfl) (by omega) (rv_of (ci := 11) rfl rfl rfl) ?_
      refine J_bipush (pc := 125) (v := 40) dX11_one_125 (by decide) ?_
      refine J_icmp_ne (pc := 127) (tgt := 169) dX11_one_127 (by decide) (fun c127 => ?_) (fun c127 => absurd c127 (fun z => q4 ((bv_eq (d := 40) (TX_le hx b) (by decide)).mp z)))
      refine J_aload_n (pc := 169) dX11_one_169 rfl ?_
      refine J_cvr (pc := 170) (N := mX11_knownHere) dX11_one_170 ml_X11_242 cf_X11_knownHere cv_X11_knownHere (r_X11_knownHere (S := rlS S s.2) (a := b) (b := b) (h := u) hx hbl hbb) rfl rfl (Nat.le_of_ble_eq_true rfl) (by omega) (rv_of (ci := 11) rfl rfl rfl) ?_
      refine J_t1 (y := nI k) (by rw [wl]; rfl) ?_
      refine J_cg2 (S' := ps (rlS S s.2) (pwe cc n b, 0, u)) (ps_same (by rw [wl]; rfl)) ?_
      refine J_istore_n (pc := 173) dX11_one_173 (by decide) rfl ?_
      refine J_iload_n (pc := 174) dX11_one_174 rfl ?_
      refine J_iconst (pc := 175) (v := -1) dX11_one_175 (by decide) ?_
      refine J_icmp_eq (pc := 176) (tgt := 188) dX11_one_176 (by decide) (fun c176 => absurd c176 (nI_nm (by omega))) (fun c176 => ?_)
      refine J_aload_n (pc := 179) dX11_one_179 rfl ?_
      refine J_iconst (pc := 180) (v := 1) dX11_one_180 (by decide) ?_
      refine J_iload_n (pc := 181) dX11_one_181 rfl ?_
      refine J_cvv (pc := 182) (N := mX11_notes) dX11_one_182 ml_X11_224 cf_X11_notes cv_X11_notes (r_nt (S := S) (s := ((pwe cc n b, 0, u), s.2)) (w := 1) (v := k) (by show 0 ≤ 3; omega) hlen) rfl rfl (Nat.le_of_ble_eq_true rfl) (by omega) (rv_of (ci := 11) rfl rfl rfl) ?_
      refine J_goto (pc := 185) (tgt := 201) dX11_one_185 (by decide) ?_
      exact J_ret (pc := 201) rfl rfl dX11_one_201 hQ
set_option maxHeartbeats 4000000 in
theorem lpo_8 {g : Gp} {n : Nat} {cc : Nat → Nat} {f : Nat} (h150 : n ≤ 150) (i0 : LP0 g n cc f) {S : Sx} {op b u : Nat} {s r : LgS} (hx : TX S n cc) (hop : sf S 59 8 = nI op) (h6 : op ≤ 6) (hI : LI n s) (q : s.1.2.1 = 0) (hbl : b ≤ n) (hbg : s.1.1 ≤ b) (hbb : pbl cc n b = b) (hu : u = s.1.2.2) (w0 : wIs cc n b [108, 101, 97, 115, 116] = false) (w1 : wIs cc n b [109, 111, 115, 116] = true) (h : (match wix cc n b wLM 7 with | some k => if op = 6 then some (((b, 3, b), s.2) : LgS) else (lp cc n f 0 (op + 1) (lsg cc n 91 ((pwe cc n b, 0, u), s.2))).bind fun s1 => (lp cc n f 0 (op + 1) (lsg cc n 44 s1)).bind fun s2 => some (nt k 0 (lsg cc n 93 s2)) | none => if cc b = 40 then (if op = 6 then some ((b, 3, b), s.2) else (lp cc n f 0 (op + 1) ((b + 1, 0, u), s.2)).bind fun s1 => some (lsg cc n 41 s1)) else match wix cc n b wLaw 0 with | some k => some (nt 1 k ((pwe cc n b, 0, u), s.2)) | none => some (nt 0 (pnum cc n 0 1000 (b, 0, u)).1 ((pnum cc n 0 1000 (b, 0, u)).2, s.2))) = some r) {sz : Nat} {Q : Po} (hQ : Q (.inl none) (hs (lS S r)) sz) : J g mX11_one (3 * (7 - op) + 8) [] 33 [some (.ref 59), none, none] [] (hs (ps (rlS S s.2) (b, 0, u))) sz 0 0 Q := by
  have hn6 := hx.2.1
  have hpo := hI.1
  have wk : wix cc n b wLM 7 = some 8 := ((wix_f w0).trans (wix_t w1))
  rw [wk] at h
  have h : (if op = 6 then some (((b, 3, b), s.2) : LgS) else (lp cc n f 0 (op + 1) (lsg cc n 91 ((pwe cc n b, 0, u), s.2))).bind fun s1 => (lp cc n f 0 (op + 1) (lsg cc n 44 s1)).bind fun s2 => some (nt 8 0 (lsg cc n 93 s2))) = some r := h
  have hw3 : b + 3 ≤ pwe cc n b := wix_3 (by decide) wk
  have hwl := pwe_le cc hbl
  by_cases qo : op = 6
  · rw [if_pos qo] at h
    cases h
    refine J_aload_n (pc := 33) dX11_one_33 rfl ?_
    refine J_bipush (pc := 34) (v := 13) dX11_one_34 (by decide) ?_
    refine J_bipush (pc := 36) (v := 15) dX11_one_36 (by decide) ?_
    refine J_bipush (pc := 38) (v := 19) dX11_one_38 (by decide) ?_
    refine J_bipush (pc := 40) (v := 20) dX11_one_40 (by decide) ?_
    refine J_iconst (pc := 42) (v := 0) dX11_one_42 (by decide) ?_
    refine J_iconst (pc := 43) (v := 0) dX11_one_43 (by decide) ?_
    refine J_cvr (pc := 44) (N := mX11_isWord) dX11_one_44 ml_X11_152 cf_X11_isWord cv_X11_isWord (r_X11_isWord (S := rlS S s.2) (a := b) (b := b) (h := u) (y := true) (w := [109, 111, 115, 116]) hx hbl hbb (by decide) (by decide) (by decide +kernel) w1) rfl rfl (Nat.le_of_ble_eq_true rfl) (by omega) (rv_of (ci := 11) rfl rfl rfl) ?_
    refine J_if_eq (pc := 47) (tgt := 55) dX11_one_47 (by decide) (fun c47 => absurd c47 (show ¬ bI true = 0 by decide)) (fun c47 => ?_)
    refine J_bipush (pc := 50) (v := 8) dX11_one_50 (by decide) ?_
    refine J_goto (pc := 52) (tgt := 56) dX11_one_52 (by decide) ?_
    refine J_istore_n (pc := 56) dX11_one_56 (by decide) rfl ?_
    refine J_iload_n (pc := 57) dX11_one_57 rfl ?_
    refine J_iconst (pc := 58) (v := -1) dX11_one_58 (by decide) ?_
    refine J_icmp_eq (pc := 59) (tgt := 117) dX11_one_59 (by decide) (fun c59 => absurd c59 (by decide)) (fun c59 => ?_)
    refine J_aload_n (pc := 62) dX11_one_62 rfl ?_
    refine J_cvr (pc := 63) (N := mX11_opensOne) dX11_one_63 ml_X11_236 cf_X11_opensOne cv_X11_opensOne (r_X11_opensOne_no (S := rlS S s.2) (a := b) (h := u) (by show sf S 59 8 = 6; rw [hop, qo]; rfl)) rfl rfl (Nat.le_of_ble_eq_true rfl) (by omega) (rv_of (ci := 11) rfl rfl rfl) ?_
    refine J_if_ne (pc := 66) (tgt := 70) dX11_one_66 (by decide) (fun c66 => absurd rfl c66) (fun c66 => ?_)
    exact J_ret (pc := 69) rfl rfl dX11_one_69 hQ
  · rw [if_neg qo] at h
    obtain ⟨s1, h1, h2⟩ := Option.bind_eq_some_iff.mp h
    obtain ⟨s2, h3, h4⟩ := Option.bind_eq_some_iff.mp h2
    cases h4
    have ho6 : op < 6 := by omega
    have p0 : PO n ((pwe cc n b, 0, u) : PT) := ⟨hwl, by show 0 ≤ 3; omega, by rw [hu]; exact hpo.2.2⟩
    have l0 : LI n (((pwe cc n b, 0, u), s.2) : LgS) := ⟨p0, fun _ => by have := hI.2 q; show s.2.length ≤ pwe cc n b; omega⟩
    have t0 := LT_sg hx (s := ((pwe cc n b, 0, u), s.2)) p0 (c := 91) (by decide)
    have l1 := LT_LI t0 l0
    have t1 := LT_lp hx f 0 (op + 1) _ s1 t0.1 h1
    have l2 := LT_LI t1 l1
    have t2 := LT_sg hx (s := s1) t1.1 (c := 44) (by decide)
    have l3 := LT_LI t2 l2
    have t3 := LT_lp hx f 0 (op + 1) _ s2 t2.1 h3
    have l4 := LT_LI t3 l3
    have t4 := LT_sg hx (s := s2) t3.1 (c := 93) (by decide)
    have l5 := LT_LI t4 l4
    have hlen : (lsg cc n 93 s2).1.2.1 = 0 → (lsg cc n 93 s2).2.length < 160 := fun z => by have := l5.2 z; have := l5.1.1; omega
    have hx2 : TX (sF S 59 8 (nI (op + 1))) n cc := hx
    refine J_aload_n (pc := 33) dX11_one_33 rfl ?_
    refine J_bipush (pc := 34) (v := 13) dX11_one_34 (by decide) ?_
    refine J_bipush (pc := 36) (v := 15) dX11_one_36 (by decide) ?_
    refine J_bipush (pc := 38) (v := 19) dX11_one_38 (by decide) ?_
    refine J_bipush (pc := 40) (v := 20) dX11_one_40 (by decide) ?_
    refine J_iconst (pc := 42) (v := 0) dX11_one_42 (by decide) ?_
    refine J_iconst (pc := 43) (v := 0) dX11_one_43 (by decide) ?_
    refine J_cvr (pc := 44) (N := mX11_isWord) dX11_one_44 ml_X11_152 cf_X11_isWord cv_X11_isWord (r_X11_isWord (S := rlS S s.2) (a := b) (b := b) (h := u) (y := true) (w := [109, 111, 115, 116]) hx hbl hbb (by decide) (by decide) (by decide +kernel) w1) rfl rfl (Nat.le_of_ble_eq_true rfl) (by omega) (rv_of (ci := 11) rfl rfl rfl) ?_
    refine J_if_eq (pc := 47) (tgt := 55) dX11_one_47 (by decide) (fun c47 => absurd c47 (show ¬ bI true = 0 by decide)) (fun c47 => ?_)
    refine J_bipush (pc := 50) (v := 8) dX11_one_50 (by decide) ?_
    refine J_goto (pc := 52) (tgt := 56) dX11_one_52 (by decide) ?_
    refine J_istore_n (pc := 56) dX11_one_56 (by decide) rfl ?_
    refine J_iload_n (pc := 57) dX11_one_57 rfl ?_
    refine J_iconst (pc := 58) (v := -1) dX11_one_58 (by decide) ?_
    refine J_icmp_eq (pc := 59) (tgt := 117) dX11_one_59 (by decide) (fun c59 => absurd c59 (by decide)) (fun c59 => ?_)
    refine J_aload_n (pc := 62) dX11_one_62 rfl ?_
    refine J_cvr (pc := 63) (N := mX11_opensOne) dX11_one_63 ml_X11_236 cf_X11_opensOne cv_X11_opensOne (r_X11_opensOne (S := rlS S s.2) (a := b) (h := u) (k := op) hop ho6) rfl rfl (Nat.le_of_ble_eq_true rfl) (by omega) (rv_of (ci := 11) rfl rfl rfl) ?_
    refine J_cg2 (S' := ps (rlS (sF S 59 8 (nI (op + 1))) s.2) (b, 0, u)) (by rw [rl_F8]) ?_
    refine J_if_ne (pc := 66) (tgt := 70) dX11_one_66 (by decide) (fun c66 => ?_) (fun c66 => absurd c66 (by decide))
    refine J_aload_n (pc := 70) dX11_one_70 rfl ?_
    refine J_cvv (pc := 71) (N := mX11_skipWord) dX11_one_71 ml_X11_156 cf_X11_skipWord cv_X11_skipWord (r_X11_skipWord (S := rlS (sF S 59 8 (nI (op + 1))) s.2) (t := (b, 0, u)) hx2 hbl) rfl rfl (Nat.le_of_ble_eq_true rfl) (by omega) (rv_of (ci := 11) rfl rfl rfl) ?_
    refine J_aload_n (pc := 74) dX11_one_74 rfl ?_
    refine J_bipush (pc := 75) (v := 91) dX11_one_75 (by decide) ?_
    refine J_cvv (pc := 77) (N := mX11_sign) dX11_one_77 ml_X11_179 cf_X11_sign cv_X11_sign (r_X11_sign (S := rlS (sF S 59 8 (nI (op + 1))) s.2) (t := (pwe cc n b, 0, u)) (c := 91) hx2 p0 (by decide)) rfl rfl (Nat.le_of_ble_eq_true rfl) (by omega) (rv_of (ci := 11) rfl rfl rfl) ?_
    refine J_aload_n (pc := 80) dX11_one_80 rfl ?_
    refine J_cg2 (S' := lS (sF S 59 8 (nI (op + 1))) (lsg cc n 91 ((pwe cc n b, 0, u), s.2))) rfl ?_
    refine J_cvv (pc := 81) (N := mX11_sum) dX11_one_81 ml_X11_239 cf_X11_sum cv_X11_sum (i0 (sF S 59 8 (nI (op + 1))) (op + 1) (lsg cc n 91 ((pwe cc n b, 0, u), s.2)) s1 hx2 rfl (by omega) l1 h1) rfl rfl (Nat.le_of_ble_eq_true rfl) (by omega) (rv_of (ci := 11) rfl rfl rfl) ?_
    refine J_aload_n (pc := 84) dX11_one_84 rfl ?_
    refine J_bipush (pc := 85) (v := 44) dX11_one_85 (by decide) ?_
    refine J_cvv (pc := 87) (N := mX11_sign) dX11_one_87 ml_X11_179 cf_X11_sign cv_X11_sign (r_X11_sign (S := rlS (sF S 59 8 (nI (op + 1))) s1.2) (t := s1.1) (c := 44) hx2 t1.1 (by decide)) rfl rfl (Nat.le_of_ble_eq_true rfl) (by omega) (rv_of (ci := 11) rfl rfl rfl) ?_
    refine J_aload_n (pc := 90) dX11_one_90 rfl ?_
    refine J_cg2 (S' := lS (sF S 59 8 (nI (op + 1))) (lsg cc n 44 s1)) rfl ?_
    refine J_cvv (pc := 91) (N := mX11_sum) dX11_one_91 ml_X11_239 cf_X11_sum cv_X11_sum (i0 (sF S 59 8 (nI (op + 1))) (op + 1) (lsg cc n 44 s1) s2 hx2 rfl (by omega) l3 h3) rfl rfl (Nat.le_of_ble_eq_true rfl) (by omega) (rv_of (ci := 11) rfl rfl rfl) ?_
    refine J_aload_n (pc := 94) dX11_one_94 rfl ?_
    refine J_bipush (pc := 95) (v := 93) dX11_one_95 (by decide) ?_
    refine J_cvv (pc := 97) (N := mX11_sign) dX11_one_97 ml_X11_179 cf_X11_sign cv_X11_sign (r_X11_sign (S := rlS (sF S 59 8 (nI (op + 1))) s2.2) (t := s2.1) (c := 93) hx2 t3.1 (by decide)) rfl rfl (Nat.le_of_ble_eq_true rfl) (by omega) (rv_of (ci := 11) rfl rfl rfl) ?_
    refine J_aload_n (pc := 100) dX11_one_100 rfl ?_
    refine J_iload_n (pc := 101) dX11_one_101 rfl ?_
    refine J_iconst (pc := 102) (v := 0) dX11_one_102 (by decide) ?_
    refine J_cg2 (S' := lS (sF S 59 8 (nI (op + 1))) (lsg cc n 93 s2)) rfl ?_
    refine J_cvv (pc := 103) (N := mX11_notes) dX11_one_103 ml_X11_224 cf_X11_notes cv_X11_notes (r_nt (S := (sF S 59 8 (nI (op + 1)))) (s := lsg cc n 93 s2) (w := 8) (v := 0) t4.1.2.1 hlen) rfl rfl (Nat.le_of_ble_eq_true rfl) (by omega) (rv_of (ci := 11) rfl rfl rfl) ?_
    refine J_aload_n (pc := 106) dX11_one_106 rfl ?_
    refine J_dup (pc := 107) dX11_one_107 rfl ?_
    refine J_geti (pc := 108) dX11_one_108 kc11 fl_X11_162 rfl ?_
    refine J_iconst (pc := 111) (v := 1) dX11_one_111 (by decide) ?_
    refine J_isub (pc := 112) dX11_one_112 ?_
    refine J_t1 (y := nI op) (nI_pred op) ?_
    refine J_puti (pc := 113) dX11_one_113 kc11 fl_X11_162 rfl ⟨rfl, rfl⟩ ?_
    refine J_cg2 (lS_back (s := nt 8 0 (lsg cc n 93 s2)) hop _) ?_
    exact J_ret (pc := 116) rfl rfl dX11_one_116 hQ
set_option maxHeartbeats 4000000 in
theorem lpo_7 {g : Gp} {n : Nat} {cc : Nat → Nat} {f : Nat} (h150 : n ≤ 150) (i0 : LP0 g n cc f) {S : Sx} {op b u : Nat} {s r : LgS} (hx : TX S n cc) (hop : sf S 59 8 = nI op) (h6 : op ≤ 6) (hI : LI n s) (q : s.1.2.1 = 0) (hbl : b ≤ n) (hbg : s.1.1 ≤ b) (hbb : pbl cc n b = b) (hu : u = s.1.2.2) (w0 : wIs cc n b [108, 101, 97, 115, 116] = true) (h : (match wix cc n b wLM 7 with | some k => if op = 6 then some (((b, 3, b), s.2) : LgS) else (lp cc n f 0 (op + 1) (lsg cc n 91 ((pwe cc n b, 0, u), s.2))).bind fun s1 => (lp cc n f 0 (op + 1) (lsg cc n 44 s1)).bind fun s2 => some (nt k 0 (lsg cc n 93 s2)) | none => if cc b = 40 then (if op = 6 then some ((b, 3, b), s.2) else (lp cc n f 0 (op + 1) ((b + 1, 0, u), s.2)).bind fun s1 => some (lsg cc n 41 s1)) else match wix cc n b wLaw 0 with | some k => some (nt 1 k ((pwe cc n b, 0, u), s.2)) | none => some (nt 0 (pnum cc n 0 1000 (b, 0, u)).1 ((pnum cc n 0 1000 (b, 0, u)).2, s.2))) = some r) {sz : Nat} {Q : Po} (hQ : Q (.inl none) (hs (lS S r)) sz) : J g mX11_one (3 * (7 - op) + 8) [] 12 [some (.ref 59), none, none] [] (hs (ps (rlS S s.2) (b, 0, u))) sz 0 0 Q := by
  have hn6 := hx.2.1
  have hpo := hI.1
  have wk : wix cc n b wLM 7 = some 7 := (wix_t w0)
  rw [wk] at h
  have h : (if op = 6 then some (((b, 3, b), s.2) : LgS) else (lp cc n f 0 (op + 1) (lsg cc n 91 ((pwe cc n b, 0, u), s.2))).bind fun s1 => (lp cc n f 0 (op + 1) (lsg cc n 44 s1)).bind fun s2 => some (nt 7 0 (lsg cc n 93 s2))) = some r := h
  have hw3 : b + 3 ≤ pwe cc n b := wix_3 (by decide) wk
  have hwl := pwe_le cc hbl
  by_cases qo : op = 6
  · rw [if_pos qo] at h
    cases h
    refine J_aload_n (pc := 12) dX11_one_12 rfl ?_
    refine J_bipush (pc := 13) (v := 12) dX11_one_13 (by decide) ?_
    refine J_iconst (pc := 15) (v := 5) dX11_one_15 (by decide) ?_
    refine J_iconst (pc := 16) (v := 1) dX11_one_16 (by decide) ?_
    refine J_bipush (pc := 17) (v := 19) dX11_one_17 (by decide) ?_
    refine J_bipush (pc := 19) (v := 20) dX11_one_19 (by decide) ?_
    refine J_iconst (pc := 21) (v := 0) dX11_one_21 (by decide) ?_
    refine J_cvr (pc := 22) (N := mX11_isWord) dX11_one_22 ml_X11_152 cf_X11_isWord cv_X11_isWord (r_X11_isWord (S := rlS S s.2) (a := b) (b := b) (h := u) (y := true) (w := [108, 101, 97, 115, 116]) hx hbl hbb (by decide) (by decide) (by decide +kernel) w0) rfl rfl (Nat.le_of_ble_eq_true rfl) (by omega) (rv_of (ci := 11) rfl rfl rfl) ?_
    refine J_if_eq (pc := 25) (tgt := 33) dX11_one_25 (by decide) (fun c25 => absurd c25 (show ¬ bI true = 0 by decide)) (fun c25 => ?_)
    refine J_bipush (pc := 28) (v := 7) dX11_one_28 (by decide) ?_
    refine J_goto (pc := 30) (tgt := 56) dX11_one_30 (by decide) ?_
    refine J_istore_n (pc := 56) dX11_one_56 (by decide) rfl ?_
    refine J_iload_n (pc := 57) dX11_one_57 rfl ?_
    refine J_iconst (pc := 58) (v := -1) dX11_one_58 (by decide) ?_
    refine J_icmp_eq (pc := 59) (tgt := 117) dX11_one_59 (by decide) (fun c59 => absurd c59 (by decide)) (fun c59 => ?_)
    refine J_aload_n (pc := 62) dX11_one_62 rfl ?_
    refine J_cvr (pc := 63) (N := mX11_opensOne) dX11_one_63 ml_X11_236 cf_X11_opensOne cv_X11_opensOne (r_X11_opensOne_no (S := rlS S s.2) (a := b) (h := u) (by show sf S 59 8 = 6; rw [hop, qo]; rfl)) rfl rfl (Nat.le_of_ble_eq_true rfl) (by omega) (rv_of (ci := 11) rfl rfl rfl) ?_
    refine J_if_ne (pc := 66) (tgt := 70) dX11_one_66 (by decide) (fun c66 => absurd rfl c66) (fun c66 => ?_)
    exact J_ret (pc := 69) rfl rfl dX11_one_69 hQ
  · rw [if_neg qo] at h
    obtain ⟨s1, h1, h2⟩ := Option.bind_eq_some_iff.mp h
    obtain ⟨s2, h3, h4⟩ := Option.bind_eq_some_iff.mp h2
    cases h4
    have ho6 : op < 6 := by omega
    have p0 : PO n ((pwe cc n b, 0, u) : PT) := ⟨hwl, by show 0 ≤ 3; omega, by rw [hu]; exact hpo.2.2⟩
    have l0 : LI n (((pwe cc n b, 0, u), s.2) : LgS) := ⟨p0, fun _ => by have := hI.2 q; show s.2.length ≤ pwe cc n b; omega⟩
    have t0 := LT_sg hx (s := ((pwe cc n b, 0, u), s.2)) p0 (c := 91) (by decide)
    have l1 := LT_LI t0 l0
    have t1 := LT_lp hx f 0 (op + 1) _ s1 t0.1 h1
    have l2 := LT_LI t1 l1
    have t2 := LT_sg hx (s := s1) t1.1 (c := 44) (by decide)
    have l3 := LT_LI t2 l2
    have t3 := LT_lp hx f 0 (op + 1) _ s2 t2.1 h3
    have l4 := LT_LI t3 l3
    have t4 := LT_sg hx (s := s2) t3.1 (c := 93) (by decide)
    have l5 := LT_LI t4 l4
    have hlen : (lsg cc n 93 s2).1.2.1 = 0 → (lsg cc n 93 s2).2.length < 160 := fun z => by have := l5.2 z; have := l5.1.1; omega
    have hx2 : TX (sF S 59 8 (nI (op + 1))) n cc := hx
    refine J_aload_n (pc := 12) dX11_one_12 rfl ?_
    refine J_bipush (pc := 13) (v := 12) dX11_one_13 (by decide) ?_
    refine J_iconst (pc := 15) (v := 5) dX11_one_15 (by decide) ?_
    refine J_iconst (pc := 16) (v := 1) dX11_one_16 (by decide) ?_
    refine J_bipush (pc := 17) (v := 19) dX11_one_17 (by decide) ?_
    refine J_bipush (pc := 19) (v := 20) dX11_one_19 (by decide) ?_
    refine J_iconst (pc := 21) (v := 0) dX11_one_21 (by decide) ?_
    refine J_cvr (pc := 22) (N := mX11_isWord) dX11_one_22 ml_X11_152 cf_X11_isWord cv_X11_isWord (r_X11_isWord (S := rlS S s.2) (a := b) (b := b) (h := u) (y := true) (w := [108, 101, 97, 115, 116]) hx hbl hbb (by decide) (by decide) (by decide +kernel) w0) rfl rfl (Nat.le_of_ble_eq_true rfl) (by omega) (rv_of (ci := 11) rfl rfl rfl) ?_
    refine J_if_eq (pc := 25) (tgt := 33) dX11_one_25 (by decide) (fun c25 => absurd c25 (show ¬ bI true = 0 by decide)) (fun c25 => ?_)
    refine J_bipush (pc := 28) (v := 7) dX11_one_28 (by decide) ?_
    refine J_goto (pc := 30) (tgt := 56) dX11_one_30 (by decide) ?_
    refine J_istore_n (pc := 56) dX11_one_56 (by decide) rfl ?_
    refine J_iload_n (pc := 57) dX11_one_57 rfl ?_
    refine J_iconst (pc := 58) (v := -1) dX11_one_58 (by decide) ?_
    refine J_icmp_eq (pc := 59) (tgt := 117) dX11_one_59 (by decide) (fun c59 => absurd c59 (by decide)) (fun c59 => ?_)
    refine J_aload_n (pc := 62) dX11_one_62 rfl ?_
    refine J_cvr (pc := 63) (N := mX11_opensOne) dX11_one_63 ml_X11_236 cf_X11_opensOne cv_X11_opensOne (r_X11_opensOne (S := rlS S s.2) (a := b) (h := u) (k := op) hop ho6) rfl rfl (Nat.le_of_ble_eq_true rfl) (by omega) (rv_of (ci := 11) rfl rfl rfl) ?_
    refine J_cg2 (S' := ps (rlS (sF S 59 8 (nI (op + 1))) s.2) (b, 0, u)) (by rw [rl_F8]) ?_
    refine J_if_ne (pc := 66) (tgt := 70) dX11_one_66 (by decide) (fun c66 => ?_) (fun c66 => absurd c66 (by decide))
    refine J_aload_n (pc := 70) dX11_one_70 rfl ?_
    refine J_cvv (pc := 71) (N := mX11_skipWord) dX11_one_71 ml_X11_156 cf_X11_skipWord cv_X11_skipWord (r_X11_skipWord (S := rlS (sF S 59 8 (nI (op + 1))) s.2) (t := (b, 0, u)) hx2 hbl) rfl rfl (Nat.le_of_ble_eq_true rfl) (by omega) (rv_of (ci := 11) rfl rfl rfl) ?_
    refine J_aload_n (pc := 74) dX11_one_74 rfl ?_
    refine J_bipush (pc := 75) (v := 91) dX11_one_75 (by decide) ?_
    refine J_cvv (pc := 77) (N := mX11_sign) dX11_one_77 ml_X11_179 cf_X11_sign cv_X11_sign (r_X11_sign (S := rlS (sF S 59 8 (nI (op + 1))) s.2) (t := (pwe cc n b, 0, u)) (c := 91) hx2 p0 (by decide)) rfl rfl (Nat.le_of_ble_eq_true rfl) (by omega) (rv_of (ci := 11) rfl rfl rfl) ?_
    refine J_aload_n (pc := 80) dX11_one_80 rfl ?_
    refine J_cg2 (S' := lS (sF S 59 8 (nI (op + 1))) (lsg cc n 91 ((pwe cc n b, 0, u), s.2))) rfl ?_
    refine J_cvv (pc := 81) (N := mX11_sum) dX11_one_81 ml_X11_239 cf_X11_sum cv_X11_sum (i0 (sF S 59 8 (nI (op + 1))) (op + 1) (lsg cc n 91 ((pwe cc n b, 0, u), s.2)) s1 hx2 rfl (by omega) l1 h1) rfl rfl (Nat.le_of_ble_eq_true rfl) (by omega) (rv_of (ci := 11) rfl rfl rfl) ?_
    refine J_aload_n (pc := 84) dX11_one_84 rfl ?_
    refine J_bipush (pc := 85) (v := 44) dX11_one_85 (by decide) ?_
    refine J_cvv (pc := 87) (N := mX11_sign) dX11_one_87 ml_X11_179 cf_X11_sign cv_X11_sign (r_X11_sign (S := rlS (sF S 59 8 (nI (op + 1))) s1.2) (t := s1.1) (c := 44) hx2 t1.1 (by decide)) rfl rfl (Nat.le_of_ble_eq_true rfl) (by omega) (rv_of (ci := 11) rfl rfl rfl) ?_
    refine J_aload_n (pc := 90) dX11_one_90 rfl ?_
    refine J_cg2 (S' := lS (sF S 59 8 (nI (op + 1))) (lsg cc n 44 s1)) rfl ?_
    refine J_cvv (pc := 91) (N := mX11_sum) dX11_one_91 ml_X11_239 cf_X11_sum cv_X11_sum (i0 (sF S 59 8 (nI (op + 1))) (op + 1) (lsg cc n 44 s1) s2 hx2 rfl (by omega) l3 h3) rfl rfl (Nat.le_of_ble_eq_true rfl) (by omega) (rv_of (ci := 11) rfl rfl rfl) ?_
    refine J_aload_n (pc := 94) dX11_one_94 rfl ?_
    refine J_bipush (pc := 95) (v := 93) dX11_one_95 (by decide) ?_
    refine J_cvv (pc := 97) (N := mX11_sign) dX11_one_97 ml_X11_179 cf_X11_sign cv_X11_sign (r_X11_sign (S := rlS (sF S 59 8 (nI (op + 1))) s2.2) (t := s2.1) (c := 93) hx2 t3.1 (by decide)) rfl rfl (Nat.le_of_ble_eq_true rfl) (by omega) (rv_of (ci := 11) rfl rfl rfl) ?_
    refine J_aload_n (pc := 100) dX11_one_100 rfl ?_
    refine J_iload_n (pc := 101) dX11_one_101 rfl ?_
    refine J_iconst (pc := 102) (v := 0) dX11_one_102 (by decide) ?_
    refine J_cg2 (S' := lS (sF S 59 8 (nI (op + 1))) (lsg cc n 93 s2)) rfl ?_
    refine J_cvv (pc := 103) (N := mX11_notes) dX11_one_103 ml_X11_224 cf_X11_notes cv_X11_notes (r_nt (S := (sF S 59 8 (nI (op + 1)))) (s := lsg cc n 93 s2) (w := 7) (v := 0) t4.1.2.1 hlen) rfl rfl (Nat.le_of_ble_eq_true rfl) (by omega) (rv_of (ci := 11) rfl rfl rfl) ?_
    refine J_aload_n (pc := 106) dX11_one_106 rfl ?_
    refine J_dup (pc := 107) dX11_one_107 rfl ?_
    refine J_geti (pc := 108) dX11_one_108 kc11 fl_X11_162 rfl ?_
    refine J_iconst (pc := 111) (v := 1) dX11_one_111 (by decide) ?_
    refine J_isub (pc := 112) dX11_one_112 ?_
    refine J_t1 (y := nI op) (nI_pred op) ?_
    refine J_puti (pc := 113) dX11_one_113 kc11 fl_X11_162 rfl ⟨rfl, rfl⟩ ?_
    refine J_cg2 (lS_back (s := nt 7 0 (lsg cc n 93 s2)) hop _) ?_
    exact J_ret (pc := 116) rfl rfl dX11_one_116 hQ
theorem lp_s2 {g : Gp} {n : Nat} {cc : Nat → Nat} {f : Nat} (h150 : n ≤ 150) (i0 : LP0 g n cc f) : LP2 g n cc (f + 1) := by
    · intro S op s r hx hop h6 hI h
      have hn6 := hx.2.1
      have hn9 := hx.2.2.2 n (Nat.le_refl _)
      have h : lpOne cc n (lp cc n f) op s = some r := h
      unfold lpOne at h
      have hpo := hI.1
      have hbl := pbl_le cc hpo.1
      have hbg := pbl_ge cc n s.1.1
      refine RT_ofQ ⟨rfl, rfl⟩ (Nat.le_of_ble_eq_true rfl) (fun sz Q hQ => ?_)
      by_cases q : s.1.2.1 = 0
      · rw [if_neg (fun z => z q)] at h
        obtain ⟨b, hb⟩ : ∃ b, b = pbl cc n s.1.1 := ⟨_, rfl⟩
        have hbb : pbl cc n b = b := by rw [hb]; exact pbl_pbl hn9 hpo.1
        rw [← hb] at h hbl hbg
        have e0 : s.1.2 = (0, s.1.2.2) := by rw [← q]
        obtain ⟨u, hu⟩ : ∃ u, u = s.1.2.2 := ⟨_, rfl⟩
        rw [← hu] at e0
        rw [e0] at h
        refine J_aload_n (pc := 0) dX11_one_0 rfl ?_
        refine J_geti (pc := 1) dX11_one_1 kc11 fl_X11_119 rfl ?_
        refine J_if_eq (pc := 4) (tgt := 8) dX11_one_4 (by decide) (fun c4 => ?_) (fun c4 => absurd (show nI s.1.2.1 = 0 by rw [q]; rfl) c4)
        refine J_aload_n (pc := 8) dX11_one_8 rfl ?_
        refine J_cvv (pc := 9) (N := mX11_blanks) dX11_one_9 ml_X11_125 cf_X11_blanks cv_X11_blanks (r_X11_blanks (S := rlS S s.2) (t := s.1) hx hpo.1) rfl rfl (Nat.le_of_ble_eq_true rfl) (by omega) (rv_of (ci := 11) rfl rfl rfl) ?_
        refine J_cg2 (S' := ps (rlS S s.2) (b, 0, u)) (ps_same (by rw [← hb, e0])) ?_
        cases w0 : wIs cc n b [108, 101, 97, 115, 116]
        · refine J_aload_n (pc := 12) dX11_one_12 rfl ?_
          refine J_bipush (pc := 13) (v := 12) dX11_one_13 (by decide) ?_
          refine J_iconst (pc := 15) (v := 5) dX11_one_15 (by decide) ?_
          refine J_iconst (pc := 16) (v := 1) dX11_one_16 (by decide) ?_
          refine J_bipush (pc := 17) (v := 19) dX11_one_17 (by decide) ?_
          refine J_bipush (pc := 19) (v := 20) dX11_one_19 (by decide) ?_
          refine J_iconst (pc := 21) (v := 0) dX11_one_21 (by decide) ?_
          refine J_cvr (pc := 22) (N := mX11_isWord) dX11_one_22 ml_X11_152 cf_X11_isWord cv_X11_isWord (r_X11_isWord (S := rlS S s.2) (a := b) (b := b) (h := u) (y := false) (w := [108, 101, 97, 115, 116]) hx hbl hbb (by decide) (by decide) (by decide +kernel) w0) rfl rfl (Nat.le_of_ble_eq_true rfl) (by omega) (rv_of (ci := 11) rfl rfl rfl) ?_
          refine J_if_eq (pc := 25) (tgt := 33) dX11_one_25 (by decide) (fun c25 => ?_) (fun c25 => absurd (show bI false = 0 from rfl) c25)
          cases w1 : wIs cc n b [109, 111, 115, 116]
          · refine J_aload_n (pc := 33) dX11_one_33 rfl ?_
            refine J_bipush (pc := 34) (v := 13) dX11_one_34 (by decide) ?_
            refine J_bipush (pc := 36) (v := 15) dX11_one_36 (by decide) ?_
            refine J_bipush (pc := 38) (v := 19) dX11_one_38 (by decide) ?_
            refine J_bipush (pc := 40) (v := 20) dX11_one_40 (by decide) ?_
            refine J_iconst (pc := 42) (v := 0) dX11_one_42 (by decide) ?_
            refine J_iconst (pc := 43) (v := 0) dX11_one_43 (by decide) ?_
            refine J_cvr (pc := 44) (N := mX11_isWord) dX11_one_44 ml_X11_152 cf_X11_isWord cv_X11_isWord (r_X11_isWord (S := rlS S s.2) (a := b) (b := b) (h := u) (y := false) (w := [109, 111, 115, 116]) hx hbl hbb (by decide) (by decide) (by decide +kernel) w1) rfl rfl (Nat.le_of_ble_eq_true rfl) (by omega) (rv_of (ci := 11) rfl rfl rfl) ?_
            refine J_if_eq (pc := 47) (tgt := 55) dX11_one_47 (by decide) (fun c47 => ?_) (fun c47 => absurd (show bI false = 0 from rfl) c47)
            refine J_iconst (pc := 55) (v := -1) dX11_one_55 (by decide) ?_
            refine J_istore_n (pc := 56) dX11_one_56 (by decide) rfl ?_
            refine J_iload_n (pc := 57) dX11_one_57 rfl ?_
            refine J_iconst (pc := 58) (v := -1) dX11_one_58 (by decide) ?_
            refine J_icmp_eq (pc := 59) (tgt := 117) dX11_one_59 (by decide) (fun c59 => ?_) (fun c59 => absurd rfl c59)
            exact lpo_par h150 i0 hx hop h6 hI q hbl hbg hbb hu w0 w1 h hQ
          · exact lpo_8 h150 i0 hx hop h6 hI q hbl hbg hbb hu w0 w1 h hQ
        · exact lpo_7 h150 i0 hx hop h6 hI q hbl hbg hbb hu w0 h hQ
      · rw [if_pos q] at h
        cases h
        refine J_aload_n (pc := 0) dX11_one_0 rfl ?_
        refine J_geti (pc := 1) dX11_one_1 kc11 fl_X11_119 rfl ?_
        refine J_if_eq (pc := 4) (tgt := 8) dX11_one_4 (by decide) (fun c4 => absurd c4 (fun z => q ((nI_z hpo.2.1).mp z))) (fun c4 => ?_)
        exact J_ret (pc := 7) rfl rfl dX11_one_7 hQ
theorem lp_s3 {g : Gp} {n : Nat} {cc : Nat → Nat} {f : Nat} (h150 : n ≤ 150) (i1 : LP1 g n cc f) (i3 : LP3 g n cc f) : LP3 g n cc (f + 1) := by
    · intro S op s r hx hop h6 hI h sz Q hQ
      have hn6 := hx.2.1
      have h : lpSl cc n (lp cc n f) op s = some r := h
      unfold lpSl at h
      have hpo := hI.1
      by_cases q : s.1.2.1 = 0
      · rw [if_neg (fun z => z q)] at h
        have p0 : PO n (ptk cc n 43 s.1).2 := PO_tk hx hpo (by decide)
        obtain ⟨b01, b02, b03⟩ := ptk_at (cc := cc) (n := n) (c := 43) q
        have q0 : (ptk cc n 43 s.1).2.2.1 = 0 := by rw [b01]; exact q
        cases k0 : (ptk cc n 43 s.1).1
        · rw [if_neg (by rw [k0]; decide)] at h
          refine J_aload_n (pc := 4) dX11_sum_4 rfl ?_
          refine J_geti (pc := 5) dX11_sum_5 kc11 fl_X11_119 rfl ?_
          refine J_if_ne (pc := 8) (tgt := 58) dX11_sum_8 (by decide) (fun c8 => absurd (show nI s.1.2.1 = 0 by rw [q]; rfl) c8) (fun c8 => ?_)
          refine J_aload_n (pc := 11) dX11_sum_11 rfl ?_
          refine J_bipush (pc := 12) (v := 43) dX11_sum_12 (by decide) ?_
          refine J_st (st' := [.int (nI 43), .ref 59]) rfl ?_
          refine J_cvr (pc := 14) (N := mX11_takesSign) dX11_sum_14 ml_X11_221 cf_X11_takesSign cv_X11_takesSign (r_X11_takesSign (S := rlS S s.2) (t := s.1) (c := 43) hx hpo (by decide)) rfl rfl (Nat.le_of_ble_eq_true rfl) (by omega) (rv_of (ci := 11) rfl rfl rfl) ?_
          refine J_t1 (y := 0) (by rw [k0]; rfl) ?_
          refine J_if_eq (pc := 17) (tgt := 24) dX11_sum_17 (by decide) (fun c17 => ?_) (fun c17 => absurd rfl c17)
          have p1 : PO n (ptk cc n 45 (ptk cc n 43 s.1).2).2 := PO_tk hx p0 (by decide)
          obtain ⟨b11, b12, b13⟩ := ptk_at (cc := cc) (n := n) (c := 45) q0
          have q1 : (ptk cc n 45 (ptk cc n 43 s.1).2).2.2.1 = 0 := by rw [b11]; exact q0
          cases k1 : (ptk cc n 45 (ptk cc n 43 s.1).2).1
          · rw [if_neg (by rw [k1]; decide)] at h
            cases h
            refine J_aload_n (pc := 24) dX11_sum_24 rfl ?_
            refine J_bipush (pc := 25) (v := 45) dX11_sum_25 (by decide) ?_
            refine J_st (st' := [.int (nI 45), .ref 59]) rfl ?_
            refine J_cvr (pc := 27) (N := mX11_takesSign) dX11_sum_27 ml_X11_221 cf_X11_takesSign cv_X11_takesSign (r_X11_takesSign (S := rlS S s.2) (t := (ptk cc n 43 s.1).2) (c := 45) hx p0 (by decide)) rfl rfl (Nat.le_of_ble_eq_true rfl) (by omega) (rv_of (ci := 11) rfl rfl rfl) ?_
            refine J_t1 (y := 0) (by rw [k1]; rfl) ?_
            refine J_if_eq (pc := 30) (tgt := 37) dX11_sum_30 (by decide) (fun c30 => ?_) (fun c30 => absurd rfl c30)
            refine J_iconst (pc := 37) (v := -1) dX11_sum_37 (by decide) ?_
            refine J_istore_n (pc := 38) dX11_sum_38 (by decide) rfl ?_
            refine J_iload_n (pc := 39) dX11_sum_39 rfl ?_
            refine J_iconst (pc := 40) (v := -1) dX11_sum_40 (by decide) ?_
            refine J_icmp_ne (pc := 41) (tgt := 45) dX11_sum_41 (by decide) (fun c41 => absurd rfl c41) (fun c41 => ?_)
            exact J_ret (pc := 44) rfl rfl dX11_sum_44 hQ
          · rw [if_pos k1] at h
            obtain ⟨s1, h1, h2⟩ := Option.bind_eq_some_iff.mp h
            have l1 : LI n ((ptk cc n 45 (ptk cc n 43 s.1).2).2, s.2) := ⟨p1, fun _ => by have := hI.2 q; have := b13 k1; show s.2.length ≤ (ptk cc n 45 (ptk cc n 43 s.1).2).2.1; omega⟩
            have a1 := LT_lp hx f 1 op _ s1 p1 h1
            have a2 := LT_nt (u := s) a1 (by have := b13 k1; show s.1.1 + 1 ≤ (ptk cc n 45 (ptk cc n 43 s.1).2).2.1; omega) rfl q 3 0
            have hlen : s1.1.2.1 = 0 → s1.2.length < 160 := fun z => by have z1 := (LT_LI a1 l1).2 z; have := a1.1.1; omega
            refine J_aload_n (pc := 24) dX11_sum_24 rfl ?_
            refine J_bipush (pc := 25) (v := 45) dX11_sum_25 (by decide) ?_
            refine J_st (st' := [.int (nI 45), .ref 59]) rfl ?_
            refine J_cvr (pc := 27) (N := mX11_takesSign) dX11_sum_27 ml_X11_221 cf_X11_takesSign cv_X11_takesSign (r_X11_takesSign (S := rlS S s.2) (t := (ptk cc n 43 s.1).2) (c := 45) hx p0 (by decide)) rfl rfl (Nat.le_of_ble_eq_true rfl) (by omega) (rv_of (ci := 11) rfl rfl rfl) ?_
            refine J_t1 (y := 1) (by rw [k1]; rfl) ?_
            refine J_if_eq (pc := 30) (tgt := 37) dX11_sum_30 (by decide) (fun c30 => absurd c30 (by decide)) (fun c30 => ?_)
            refine J_iconst (pc := 33) (v := 3) dX11_sum_33 (by decide) ?_
            refine J_goto (pc := 34) (tgt := 38) dX11_sum_34 (by decide) ?_
            refine J_istore_n (pc := 38) dX11_sum_38 (by decide) rfl ?_
            refine J_iload_n (pc := 39) dX11_sum_39 rfl ?_
            refine J_iconst (pc := 40) (v := -1) dX11_sum_40 (by decide) ?_
            refine J_icmp_ne (pc := 41) (tgt := 45) dX11_sum_41 (by decide) (fun c41 => ?_) (fun c41 => absurd c41 (by decide))
            refine J_aload_n (pc := 45) dX11_sum_45 rfl ?_
            refine J_cvv (pc := 46) (N := mX11_product) dX11_sum_46 ml_X11_218 cf_X11_product cv_X11_product (i1 S op ((ptk cc n 45 (ptk cc n 43 s.1).2).2, s.2) s1 hx hop h6 l1 h1) rfl rfl (Nat.le_of_ble_eq_true rfl) (by omega) (rv_of (ci := 11) rfl rfl rfl) ?_
            refine J_aload_n (pc := 49) dX11_sum_49 rfl ?_
            refine J_iload_n (pc := 50) dX11_sum_50 rfl ?_
            refine J_iconst (pc := 51) (v := 0) dX11_sum_51 (by decide) ?_
            refine J_cvv (pc := 52) (N := mX11_notes) dX11_sum_52 ml_X11_224 cf_X11_notes cv_X11_notes (r_nt (S := S) (s := s1) (w := 3) (v := 0) a1.1.2.1 hlen) rfl rfl (Nat.le_of_ble_eq_true rfl) (by omega) (rv_of (ci := 11) rfl rfl rfl) ?_
            refine J_goto (pc := 55) (tgt := 4) dX11_sum_55 (by decide) ?_
            refine J_forget (fun k u hu => ?_) (i3 S op (nt 3 0 s1) r hx hop h6 (LT_LI a2 hI) h2 sz Q hQ)
            rcases k with _ | _ | k <;> first | exact hu | (simp at hu)
        · rw [if_pos k0] at h
          obtain ⟨s1, h1, h2⟩ := Option.bind_eq_some_iff.mp h
          have l1 : LI n ((ptk cc n 43 s.1).2, s.2) := ⟨p0, fun _ => by have := hI.2 q; have := b03 k0; show s.2.length ≤ (ptk cc n 43 s.1).2.1; omega⟩
          have a1 := LT_lp hx f 1 op _ s1 p0 h1
          have a2 := LT_nt (u := s) a1 (by have := b03 k0; show s.1.1 + 1 ≤ (ptk cc n 43 s.1).2.1; omega) rfl q 2 0
          have hlen : s1.1.2.1 = 0 → s1.2.length < 160 := fun z => by have z1 := (LT_LI a1 l1).2 z; have := a1.1.1; omega
          refine J_aload_n (pc := 4) dX11_sum_4 rfl ?_
          refine J_geti (pc := 5) dX11_sum_5 kc11 fl_X11_119 rfl ?_
          refine J_if_ne (pc := 8) (tgt := 58) dX11_sum_8 (by decide) (fun c8 => absurd (show nI s.1.2.1 = 0 by rw [q]; rfl) c8) (fun c8 => ?_)
          refine J_aload_n (pc := 11) dX11_sum_11 rfl ?_
          refine J_bipush (pc := 12) (v := 43) dX11_sum_12 (by decide) ?_
          refine J_st (st' := [.int (nI 43), .ref 59]) rfl ?_
          refine J_cvr (pc := 14) (N := mX11_takesSign) dX11_sum_14 ml_X11_221 cf_X11_takesSign cv_X11_takesSign (r_X11_takesSign (S := rlS S s.2) (t := s.1) (c := 43) hx hpo (by decide)) rfl rfl (Nat.le_of_ble_eq_true rfl) (by omega) (rv_of (ci := 11) rfl rfl rfl) ?_
          refine J_t1 (y := 1) (by rw [k0]; rfl) ?_
          refine J_if_eq (pc := 17) (tgt := 24) dX11_sum_17 (by decide) (fun c17 => absurd c17 (by decide)) (fun c17 => ?_)
          refine J_iconst (pc := 20) (v := 2) dX11_sum_20 (by decide) ?_
          refine J_goto (pc := 21) (tgt := 38) dX11_sum_21 (by decide) ?_
          refine J_istore_n (pc := 38) dX11_sum_38 (by decide) rfl ?_
          refine J_iload_n (pc := 39) dX11_sum_39 rfl ?_
          refine J_iconst (pc := 40) (v := -1) dX11_sum_40 (by decide) ?_
          refine J_icmp_ne (pc := 41) (tgt := 45) dX11_sum_41 (by decide) (fun c41 => ?_) (fun c41 => absurd c41 (by decide))
          refine J_aload_n (pc := 45) dX11_sum_45 rfl ?_
          refine J_cvv (pc := 46) (N := mX11_product) dX11_sum_46 ml_X11_218 cf_X11_product cv_X11_product (i1 S op ((ptk cc n 43 s.1).2, s.2) s1 hx hop h6 l1 h1) rfl rfl (Nat.le_of_ble_eq_true rfl) (by omega) (rv_of (ci := 11) rfl rfl rfl) ?_
          refine J_aload_n (pc := 49) dX11_sum_49 rfl ?_
          refine J_iload_n (pc := 50) dX11_sum_50 rfl ?_
          refine J_iconst (pc := 51) (v := 0) dX11_sum_51 (by decide) ?_
          refine J_cvv (pc := 52) (N := mX11_notes) dX11_sum_52 ml_X11_224 cf_X11_notes cv_X11_notes (r_nt (S := S) (s := s1) (w := 2) (v := 0) a1.1.2.1 hlen) rfl rfl (Nat.le_of_ble_eq_true rfl) (by omega) (rv_of (ci := 11) rfl rfl rfl) ?_
          refine J_goto (pc := 55) (tgt := 4) dX11_sum_55 (by decide) ?_
          refine J_forget (fun k u hu => ?_) (i3 S op (nt 2 0 s1) r hx hop h6 (LT_LI a2 hI) h2 sz Q hQ)
          rcases k with _ | _ | k <;> first | exact hu | (simp at hu)
      · rw [if_pos q] at h
        cases h
        refine J_aload_n (pc := 4) dX11_sum_4 rfl ?_
        refine J_geti (pc := 5) dX11_sum_5 kc11 fl_X11_119 rfl ?_
        refine J_if_ne (pc := 8) (tgt := 58) dX11_sum_8 (by decide) (fun c8 => ?_) (fun c8 => absurd c8 (fun z => q ((nI_z hpo.2.1).mp z)))
        exact J_ret (pc := 58) rfl rfl dX11_sum_58 hQ
theorem lp_s4 {g : Gp} {n : Nat} {cc : Nat → Nat} {f : Nat} (h150 : n ≤ 150) (i2 : LP2 g n cc f) (i4 : LP4 g n cc f) : LP4 g n cc (f + 1) := by
    · intro S op s r hx hop h6 hI h sz Q hQ
      have hn6 := hx.2.1
      have h : lpPl cc n (lp cc n f) op s = some r := h
      unfold lpPl at h
      have hpo := hI.1
      by_cases q : s.1.2.1 = 0
      · rw [if_neg (fun z => z q)] at h
        have p0 : PO n (ptk cc n 42 s.1).2 := PO_tk hx hpo (by decide)
        obtain ⟨b01, b02, b03⟩ := ptk_at (cc := cc) (n := n) (c := 42) q
        have q0 : (ptk cc n 42 s.1).2.2.1 = 0 := by rw [b01]; exact q
        cases k0 : (ptk cc n 42 s.1).1
        · rw [if_neg (by rw [k0]; decide)] at h
          refine J_aload_n (pc := 4) dX11_product_4 rfl ?_
          refine J_geti (pc := 5) dX11_product_5 kc11 fl_X11_119 rfl ?_
          refine J_if_ne (pc := 8) (tgt := 72) dX11_product_8 (by decide) (fun c8 => absurd (show nI s.1.2.1 = 0 by rw [q]; rfl) c8) (fun c8 => ?_)
          refine J_aload_n (pc := 11) dX11_product_11 rfl ?_
          refine J_bipush (pc := 12) (v := 42) dX11_product_12 (by decide) ?_
          refine J_st (st' := [.int (nI 42), .ref 59]) rfl ?_
          refine J_cvr (pc := 14) (N := mX11_takesSign) dX11_product_14 ml_X11_221 cf_X11_takesSign cv_X11_takesSign (r_X11_takesSign (S := rlS S s.2) (t := s.1) (c := 42) hx hpo (by decide)) rfl rfl (Nat.le_of_ble_eq_true rfl) (by omega) (rv_of (ci := 11) rfl rfl rfl) ?_
          refine J_t1 (y := 0) (by rw [k0]; rfl) ?_
          refine J_if_eq (pc := 17) (tgt := 24) dX11_product_17 (by decide) (fun c17 => ?_) (fun c17 => absurd rfl c17)
          have p1 : PO n (ptk cc n 47 (ptk cc n 42 s.1).2).2 := PO_tk hx p0 (by decide)
          obtain ⟨b11, b12, b13⟩ := ptk_at (cc := cc) (n := n) (c := 47) q0
          have q1 : (ptk cc n 47 (ptk cc n 42 s.1).2).2.2.1 = 0 := by rw [b11]; exact q0
          cases k1 : (ptk cc n 47 (ptk cc n 42 s.1).2).1
          · rw [if_neg (by rw [k1]; decide)] at h
            refine J_aload_n (pc := 24) dX11_product_24 rfl ?_
            refine J_bipush (pc := 25) (v := 47) dX11_product_25 (by decide) ?_
            refine J_st (st' := [.int (nI 47), .ref 59]) rfl ?_
            refine J_cvr (pc := 27) (N := mX11_takesSign) dX11_product_27 ml_X11_221 cf_X11_takesSign cv_X11_takesSign (r_X11_takesSign (S := rlS S s.2) (t := (ptk cc n 42 s.1).2) (c := 47) hx p0 (by decide)) rfl rfl (Nat.le_of_ble_eq_true rfl) (by omega) (rv_of (ci := 11) rfl rfl rfl) ?_
            refine J_t1 (y := 0) (by rw [k1]; rfl) ?_
            refine J_if_eq (pc := 30) (tgt := 37) dX11_product_30 (by decide) (fun c30 => ?_) (fun c30 => absurd rfl c30)
            have p2 : PO n (ptk cc n 37 (ptk cc n 47 (ptk cc n 42 s.1).2).2).2 := PO_tk hx p1 (by decide)
            obtain ⟨b21, b22, b23⟩ := ptk_at (cc := cc) (n := n) (c := 37) q1
            have q2 : (ptk cc n 37 (ptk cc n 47 (ptk cc n 42 s.1).2).2).2.2.1 = 0 := by rw [b21]; exact q1
            cases k2 : (ptk cc n 37 (ptk cc n 47 (ptk cc n 42 s.1).2).2).1
            · rw [if_neg (by rw [k2]; decide)] at h
              cases h
              refine J_aload_n (pc := 37) dX11_product_37 rfl ?_
              refine J_bipush (pc := 38) (v := 37) dX11_product_38 (by decide) ?_
              refine J_st (st' := [.int (nI 37), .ref 59]) rfl ?_
              refine J_cvr (pc := 40) (N := mX11_takesSign) dX11_product_40 ml_X11_221 cf_X11_takesSign cv_X11_takesSign (r_X11_takesSign (S := rlS S s.2) (t := (ptk cc n 47 (ptk cc n 42 s.1).2).2) (c := 37) hx p1 (by decide)) rfl rfl (Nat.le_of_ble_eq_true rfl) (by omega) (rv_of (ci := 11) rfl rfl rfl) ?_
              refine J_t1 (y := 0) (by rw [k2]; rfl) ?_
              refine J_if_eq (pc := 43) (tgt := 51) dX11_product_43 (by decide) (fun c43 => ?_) (fun c43 => absurd rfl c43)
              refine J_iconst (pc := 51) (v := -1) dX11_product_51 (by decide) ?_
              refine J_istore_n (pc := 52) dX11_product_52 (by decide) rfl ?_
              refine J_iload_n (pc := 53) dX11_product_53 rfl ?_
              refine J_iconst (pc := 54) (v := -1) dX11_product_54 (by decide) ?_
              refine J_icmp_ne (pc := 55) (tgt := 59) dX11_product_55 (by decide) (fun c55 => absurd rfl c55) (fun c55 => ?_)
              exact J_ret (pc := 58) rfl rfl dX11_product_58 hQ
            · rw [if_pos k2] at h
              obtain ⟨s1, h1, h2⟩ := Option.bind_eq_some_iff.mp h
              have l1 : LI n ((ptk cc n 37 (ptk cc n 47 (ptk cc n 42 s.1).2).2).2, s.2) := ⟨p2, fun _ => by have := hI.2 q; have := b23 k2; show s.2.length ≤ (ptk cc n 37 (ptk cc n 47 (ptk cc n 42 s.1).2).2).2.1; omega⟩
              have a1 := LT_lp hx f 2 op _ s1 p2 h1
              have a2 := LT_nt (u := s) a1 (by have := b23 k2; show s.1.1 + 1 ≤ (ptk cc n 37 (ptk cc n 47 (ptk cc n 42 s.1).2).2).2.1; omega) rfl q 6 0
              have hlen : s1.1.2.1 = 0 → s1.2.length < 160 := fun z => by have z1 := (LT_LI a1 l1).2 z; have := a1.1.1; omega
              refine J_aload_n (pc := 37) dX11_product_37 rfl ?_
              refine J_bipush (pc := 38) (v := 37) dX11_product_38 (by decide) ?_
              refine J_st (st' := [.int (nI 37), .ref 59]) rfl ?_
              refine J_cvr (pc := 40) (N := mX11_takesSign) dX11_product_40 ml_X11_221 cf_X11_takesSign cv_X11_takesSign (r_X11_takesSign (S := rlS S s.2) (t := (ptk cc n 47 (ptk cc n 42 s.1).2).2) (c := 37) hx p1 (by decide)) rfl rfl (Nat.le_of_ble_eq_true rfl) (by omega) (rv_of (ci := 11) rfl rfl rfl) ?_
              refine J_t1 (y := 1) (by rw [k2]; rfl) ?_
              refine J_if_eq (pc := 43) (tgt := 51) dX11_product_43 (by decide) (fun c43 => absurd c43 (by decide)) (fun c43 => ?_)
              refine J_bipush (pc := 46) (v := 6) dX11_product_46 (by decide) ?_
              refine J_goto (pc := 48) (tgt := 52) dX11_product_48 (by decide) ?_
              refine J_istore_n (pc := 52) dX11_product_52 (by decide) rfl ?_
              refine J_iload_n (pc := 53) dX11_product_53 rfl ?_
              refine J_iconst (pc := 54) (v := -1) dX11_product_54 (by decide) ?_
              refine J_icmp_ne (pc := 55) (tgt := 59) dX11_product_55 (by decide) (fun c55 => ?_) (fun c55 => absurd c55 (by decide))
              refine J_aload_n (pc := 59) dX11_product_59 rfl ?_
              refine J_cvv (pc := 60) (N := mX11_one) dX11_product_60 ml_X11_227 cf_X11_one cv_X11_one (i2 S op ((ptk cc n 37 (ptk cc n 47 (ptk cc n 42 s.1).2).2).2, s.2) s1 hx hop h6 l1 h1) rfl rfl (Nat.le_of_ble_eq_true rfl) (by omega) (rv_of (ci := 11) rfl rfl rfl) ?_
              refine J_aload_n (pc := 63) dX11_product_63 rfl ?_
              refine J_iload_n (pc := 64) dX11_product_64 rfl ?_
              refine J_iconst (pc := 65) (v := 0) dX11_product_65 (by decide) ?_
              refine J_cvv (pc := 66) (N := mX11_notes) dX11_product_66 ml_X11_224 cf_X11_notes cv_X11_notes (r_nt (S := S) (s := s1) (w := 6) (v := 0) a1.1.2.1 hlen) rfl rfl (Nat.le_of_ble_eq_true rfl) (by omega) (rv_of (ci := 11) rfl rfl rfl) ?_
              refine J_goto (pc := 69) (tgt := 4) dX11_product_69 (by decide) ?_
              refine J_forget (fun k u hu => ?_) (i4 S op (nt 6 0 s1) r hx hop h6 (LT_LI a2 hI) h2 sz Q hQ)
              rcases k with _ | _ | k <;> first | exact hu | (simp at hu)
          · rw [if_pos k1] at h
            obtain ⟨s1, h1, h2⟩ := Option.bind_eq_some_iff.mp h
            have l1 : LI n ((ptk cc n 47 (ptk cc n 42 s.1).2).2, s.2) := ⟨p1, fun _ => by have := hI.2 q; have := b13 k1; show s.2.length ≤ (ptk cc n 47 (ptk cc n 42 s.1).2).2.1; omega⟩
            have a1 := LT_lp hx f 2 op _ s1 p1 h1
            have a2 := LT_nt (u := s) a1 (by have := b13 k1; show s.1.1 + 1 ≤ (ptk cc n 47 (ptk cc n 42 s.1).2).2.1; omega) rfl q 5 0
            have hlen : s1.1.2.1 = 0 → s1.2.length < 160 := fun z => by have z1 := (LT_LI a1 l1).2 z; have := a1.1.1; omega
            refine J_aload_n (pc := 24) dX11_product_24 rfl ?_
            refine J_bipush (pc := 25) (v := 47) dX11_product_25 (by decide) ?_
            refine J_st (st' := [.int (nI 47), .ref 59]) rfl ?_
            refine J_cvr (pc := 27) (N := mX11_takesSign) dX11_product_27 ml_X11_221 cf_X11_takesSign cv_X11_takesSign (r_X11_takesSign (S := rlS S s.2) (t := (ptk cc n 42 s.1).2) (c := 47) hx p0 (by decide)) rfl rfl (Nat.le_of_ble_eq_true rfl) (by omega) (rv_of (ci := 11) rfl rfl rfl) ?_
            refine J_t1 (y := 1) (by rw [k1]; rfl) ?_
            refine J_if_eq (pc := 30) (tgt := 37) dX11_product_30 (by decide) (fun c30 => absurd c30 (by decide)) (fun c30 => ?_)
            refine J_iconst (pc := 33) (v := 5) dX11_product_33 (by decide) ?_
            refine J_goto (pc := 34) (tgt := 52) dX11_product_34 (by decide) ?_
            refine J_istore_n (pc := 52) dX11_product_52 (by decide) rfl ?_
            refine J_iload_n (pc := 53) dX11_product_53 rfl ?_
            refine J_iconst (pc := 54) (v := -1) dX11_product_54 (by decide) ?_
            refine J_icmp_ne (pc := 55) (tgt := 59) dX11_product_55 (by decide) (fun c55 => ?_) (fun c55 => absurd c55 (by decide))
            refine J_aload_n (pc := 59) dX11_product_59 rfl ?_
            refine J_cvv (pc := 60) (N := mX11_one) dX11_product_60 ml_X11_227 cf_X11_one cv_X11_one (i2 S op ((ptk cc n 47 (ptk cc n 42 s.1).2).2, s.2) s1 hx hop h6 l1 h1) rfl rfl (Nat.le_of_ble_eq_true rfl) (by omega) (rv_of (ci := 11) rfl rfl rfl) ?_
            refine J_aload_n (pc := 63) dX11_product_63 rfl ?_
            refine J_iload_n (pc := 64) dX11_product_64 rfl ?_
            refine J_iconst (pc := 65) (v := 0) dX11_product_65 (by decide) ?_
            refine J_cvv (pc := 66) (N := mX11_notes) dX11_product_66 ml_X11_224 cf_X11_notes cv_X11_notes (r_nt (S := S) (s := s1) (w := 5) (v := 0) a1.1.2.1 hlen) rfl rfl (Nat.le_of_ble_eq_true rfl) (by omega) (rv_of (ci := 11) rfl rfl rfl) ?_
            refine J_goto (pc := 69) (tgt := 4) dX11_product_69 (by decide) ?_
            refine J_forget (fun k u hu => ?_) (i4 S op (nt 5 0 s1) r hx hop h6 (LT_LI a2 hI) h2 sz Q hQ)
            rcases k with _ | _ | k <;> first | exact hu | (simp at hu)
        · rw [if_pos k0] at h
          obtain ⟨s1, h1, h2⟩ := Option.bind_eq_some_iff.mp h
          have l1 : LI n ((ptk cc n 42 s.1).2, s.2) := ⟨p0, fun _ => by have := hI.2 q; have := b03 k0; show s.2.length ≤ (ptk cc n 42 s.1).2.1; omega⟩
          have a1 := LT_lp hx f 2 op _ s1 p0 h1
          have a2 := LT_nt (u := s) a1 (by have := b03 k0; show s.1.1 + 1 ≤ (ptk cc n 42 s.1).2.1; omega) rfl q 4 0
          have hlen : s1.1.2.1 = 0 → s1.2.length < 160 := fun z => by have z1 := (LT_LI a1 l1).2 z; have := a1.1.1; omega
          refine J_aload_n (pc := 4) dX11_product_4 rfl ?_
          refine J_geti (pc := 5) dX11_product_5 kc11 fl_X11_119 rfl ?_
          refine J_if_ne (pc := 8) (tgt := 72) dX11_product_8 (by decide) (fun c8 => absurd (show nI s.1.2.1 = 0 by rw [q]; rfl) c8) (fun c8 => ?_)
          refine J_aload_n (pc := 11) dX11_product_11 rfl ?_
          refine J_bipush (pc := 12) (v := 42) dX11_product_12 (by decide) ?_
          refine J_st (st' := [.int (nI 42), .ref 59]) rfl ?_
          refine J_cvr (pc := 14) (N := mX11_takesSign) dX11_product_14 ml_X11_221 cf_X11_takesSign cv_X11_takesSign (r_X11_takesSign (S := rlS S s.2) (t := s.1) (c := 42) hx hpo (by decide)) rfl rfl (Nat.le_of_ble_eq_true rfl) (by omega) (rv_of (ci := 11) rfl rfl rfl) ?_
          refine J_t1 (y := 1) (by rw [k0]; rfl) ?_
          refine J_if_eq (pc := 17) (tgt := 24) dX11_product_17 (by decide) (fun c17 => absurd c17 (by decide)) (fun c17 => ?_)
          refine J_iconst (pc := 20) (v := 4) dX11_product_20 (by decide) ?_
          refine J_goto (pc := 21) (tgt := 52) dX11_product_21 (by decide) ?_
          refine J_istore_n (pc := 52) dX11_product_52 (by decide) rfl ?_
          refine J_iload_n (pc := 53) dX11_product_53 rfl ?_
          refine J_iconst (pc := 54) (v := -1) dX11_product_54 (by decide) ?_
          refine J_icmp_ne (pc := 55) (tgt := 59) dX11_product_55 (by decide) (fun c55 => ?_) (fun c55 => absurd c55 (by decide))
          refine J_aload_n (pc := 59) dX11_product_59 rfl ?_
          refine J_cvv (pc := 60) (N := mX11_one) dX11_product_60 ml_X11_227 cf_X11_one cv_X11_one (i2 S op ((ptk cc n 42 s.1).2, s.2) s1 hx hop h6 l1 h1) rfl rfl (Nat.le_of_ble_eq_true rfl) (by omega) (rv_of (ci := 11) rfl rfl rfl) ?_
          refine J_aload_n (pc := 63) dX11_product_63 rfl ?_
          refine J_iload_n (pc := 64) dX11_product_64 rfl ?_
          refine J_iconst (pc := 65) (v := 0) dX11_product_65 (by decide) ?_
          refine J_cvv (pc := 66) (N := mX11_notes) dX11_product_66 ml_X11_224 cf_X11_notes cv_X11_notes (r_nt (S := S) (s := s1) (w := 4) (v := 0) a1.1.2.1 hlen) rfl rfl (Nat.le_of_ble_eq_true rfl) (by omega) (rv_of (ci := 11) rfl rfl rfl) ?_
          refine J_goto (pc := 69) (tgt := 4) dX11_product_69 (by decide) ?_
          refine J_forget (fun k u hu => ?_) (i4 S op (nt 4 0 s1) r hx hop h6 (LT_LI a2 hI) h2 sz Q hQ)
          rcases k with _ | _ | k <;> first | exact hu | (simp at hu)
      · rw [if_pos q] at h
        cases h
        refine J_aload_n (pc := 4) dX11_product_4 rfl ?_
        refine J_geti (pc := 5) dX11_product_5 kc11 fl_X11_119 rfl ?_
        refine J_if_ne (pc := 8) (tgt := 72) dX11_product_8 (by decide) (fun c8 => ?_) (fun c8 => absurd c8 (fun z => q ((nI_z hpo.2.1).mp z)))
        exact J_ret (pc := 72) rfl rfl dX11_product_72 hQ
theorem r_lp {g : Gp} {n : Nat} {cc : Nat → Nat} (h150 : n ≤ 150) : ∀ f, LP0 g n cc f ∧ LP1 g n cc f ∧ LP2 g n cc f ∧ LP3 g n cc f ∧ LP4 g n cc f
  | 0 => by refine ⟨?_, ?_, ?_, ?_, ?_⟩ <;> (intro _ _ _ _ _ _ _ _ h; cases h)
  | f + 1 => by
    obtain ⟨i0, i1, i2, i3, i4⟩ := r_lp h150 f
    exact ⟨lp_s0 i1 i3, lp_s1 i2 i4, lp_s2 h150 i0, lp_s3 h150 i1 i3, lp_s4 h150 i2 i4⟩

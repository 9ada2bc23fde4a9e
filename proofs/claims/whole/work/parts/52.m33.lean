/-! ===== a house given ===== -/
def flS (S : Sx) (a o : Nat) (v : Int32) : Nat → Sx
  | 0 => S
  | i + 1 => sA (flS S a o v i) a (o + i) v
theorem fl_f (S : Sx) (a o : Nat) (v : Int32) : ∀ i, sf (flS S a o v i) = sf S
  | 0 => rfl
  | i + 1 => fl_f S a o v i
theorem fl_p (S : Sx) (a o : Nat) (v : Int32) : ∀ i, sp (flS S a o v i) = sp S
  | 0 => rfl
  | i + 1 => fl_p S a o v i
theorem fl_o (S : Sx) {a b : Nat} (o : Nat) (v : Int32) (h : b ≠ a) : ∀ i, sa (flS S a o v i) b = sa S b
  | 0 => rfl
  | i + 1 => by
    show up2 (sa (flS S a o v i)) a (o + i) v b = _
    rw [up2_o h]
    exact fl_o S o v h i
theorem fl_s (S : Sx) (a o : Nat) (v : Int32) : ∀ i k, sa (flS S a o v i) a k = if o ≤ k ∧ k < o + i then v else sa S a k
  | 0, k => by rw [if_neg (by omega)]; rfl
  | i + 1, k => by
    show sa (sA (flS S a o v i) a (o + i) v) a k = _
    rw [sa_sA, if_pos rfl, fl_s S a o v i k]
    by_cases e : k = o + i
    · rw [if_pos e, if_pos (by omega)]
    · rw [if_neg e]
      by_cases e2 : o ≤ k ∧ k < o + i
      · rw [if_pos e2, if_pos (by omega)]
      · rw [if_neg e2, if_neg (by omega)]
def cp2 (S : Sx) : Nat → Sx
  | 0 => S
  | i + 1 => sA (sA (cp2 S i) 65 i (sa (cp2 S i) 64 i)) 67 i (sa (sA (cp2 S i) 65 i (sa (cp2 S i) 64 i)) 66 i)
theorem cp2_f (S : Sx) : ∀ i, sf (cp2 S i) = sf S
  | 0 => rfl
  | i + 1 => cp2_f S i
theorem cp2_p (S : Sx) : ∀ i, sp (cp2 S i) = sp S
  | 0 => rfl
  | i + 1 => cp2_p S i
theorem cp2_o (S : Sx) {b : Nat} (h1 : b ≠ 65) (h2 : b ≠ 67) : ∀ i, sa (cp2 S i) b = sa S b
  | 0 => rfl
  | i + 1 => by
    show up2 (up2 (sa (cp2 S i)) 65 i _) 67 i _ b = _
    rw [up2_o h2, up2_o h1]
    exact cp2_o S h1 h2 i
theorem cp2_65 (S : Sx) : ∀ i k, sa (cp2 S i) 65 k = if k < i then sa S 64 k else sa S 65 k
  | 0, k => by rw [if_neg (by omega)]; rfl
  | i + 1, k => by
    show sa (sA (sA (cp2 S i) 65 i (sa (cp2 S i) 64 i)) 67 i _) 65 k = _
    rw [sa_o (by decide), sa_sA, if_pos rfl, cp2_65 S i k, cp2_o S (by decide) (by decide) i]
    by_cases e : k = i
    · rw [if_pos e, if_pos (by omega), e]
    · rw [if_neg e]
      by_cases e2 : k < i
      · rw [if_pos e2, if_pos (by omega)]
      · rw [if_neg e2, if_neg (by omega)]
theorem cp2_67 (S : Sx) : ∀ i k, sa (cp2 S i) 67 k = if k < i then sa S 66 k else sa S 67 k
  | 0, k => by rw [if_neg (by omega)]; rfl
  | i + 1, k => by
    show sa (sA (sA (cp2 S i) 65 i (sa (cp2 S i) 64 i)) 67 i (sa (cp2 S i) 66 i)) 67 k = _
    rw [sa_sA, if_pos rfl, sa_o (by decide), cp2_67 S i k, cp2_o S (by decide) (by decide) i]
    by_cases e : k = i
    · rw [if_pos e, if_pos (by omega), e]
    · rw [if_neg e]
      by_cases e2 : k < i
      · rw [if_pos e2, if_pos (by omega)]
      · rw [if_neg e2, if_neg (by omega)]
theorem cpS_p (S : Sx) (b a : Nat) : ∀ i, sp (cpS S b a i) = sp S
  | 0 => rfl
  | i + 1 => cpS_p S b a i
theorem cpS_o (S : Sx) {b a c : Nat} (h : c ≠ a) : ∀ i, sa (cpS S b a i) c = sa S c
  | 0 => rfl
  | i + 1 => by
    show up2 (sa (cpS S b a i)) a i _ c = _
    rw [up2_o h]
    exact cpS_o S h i
theorem cpS_s (S : Sx) {b a : Nat} (h : b ≠ a) : ∀ i k, sa (cpS S b a i) a k = if k < i then sa S b k else sa S a k
  | 0, k => by rw [if_neg (by omega)]; rfl
  | i + 1, k => by
    show sa (sA (cpS S b a i) a i (sa (cpS S b a i) b i)) a k = _
    rw [sa_sA, if_pos rfl, cpS_s S h i k, cpS_o S h i]
    by_cases e : k = i
    · rw [if_pos e, if_pos (by omega), e]
    · rw [if_neg e]
      by_cases e2 : k < i
      · rw [if_pos e2, if_pos (by omega)]
      · rw [if_neg e2, if_neg (by omega)]
def bgA (S : Sx) (nr np : Nat) : Sx := flS (flS (flS (lyS (lyS (cp2 (cpS S 62 63 3) 8) 69 80 3 nr 0) 91 100 2 np 0) 535 0 0 45) 535 16 (-1) 10) 535 36 (-1) 8
def bgS (S : Sx) (nr np : Nat) : Sx := sF (sF (sF (sF (sF (bgA S nr np) 59 21 0) 59 35 0) 59 36 0) 59 37 0) 59 38 0
theorem r_X11_tellsNothing {g : Gp} {S : Sx}  : RT g mX11_tellsNothing 0 [.ref 59] S none (flS (flS S 62 0 0 3) 66 0 (-1) 8) := by
  refine RT_ofQ ⟨rfl, rfl⟩ (Nat.le_of_ble_eq_true rfl) (fun sz Q hQ => ?_)
  refine J_iconst (pc := 0) (v := 0) dX11_tellsNothing_0 (by decide) ?_
  refine J_istore_n (pc := 1) dX11_tellsNothing_1 (by decide) rfl ?_
  show J g mX11_tellsNothing 0 [] 2 [some (.ref 59), some (.int (ix 0))] [] (hs (flS S 62 0 0 0)) sz 0 0 Q
  refine dn_ind (n := 3) (P := fun i => J g mX11_tellsNothing 0 [] 2 [some (.ref 59), some (.int (ix i))] [] (hs (flS S 62 0 0 i)) sz 0 0 Q) ?_ (fun i hi ih => ?_) 0 (Nat.zero_le _)
  · refine J_iload_n (pc := 2) dX11_tellsNothing_2 rfl ?_
    refine J_iconst (pc := 3) (v := 3) dX11_tellsNothing_3 (by decide) ?_
    refine J_icmp_ge (pc := 4) (tgt := 20) dX11_tellsNothing_4 (by decide) (fun c4 => ?_) (fun c4 => absurd (ix_ge (n := 3) rfl) c4)
    refine J_iconst (pc := 20) (v := 0) dX11_tellsNothing_20 (by decide) ?_
    refine J_istore_n (pc := 21) dX11_tellsNothing_21 (by decide) rfl ?_
    show J g mX11_tellsNothing 0 [] 22 [some (.ref 59), some (.int (ix 0))] [] (hs (flS (flS S 62 0 0 3) 66 0 (-1) 0)) sz 0 0 Q
    refine dn_ind (n := 8) (P := fun i => J g mX11_tellsNothing 0 [] 22 [some (.ref 59), some (.int (ix i))] [] (hs (flS (flS S 62 0 0 3) 66 0 (-1) i)) sz 0 0 Q) ?_ (fun i hi ih => ?_) 0 (Nat.zero_le _)
    · refine J_iload_n (pc := 22) dX11_tellsNothing_22 rfl ?_
      refine J_bipush (pc := 23) (v := 8) dX11_tellsNothing_23 (by decide) ?_
      refine J_icmp_ge (pc := 25) (tgt := 41) dX11_tellsNothing_25 (by decide) (fun c25 => ?_) (fun c25 => absurd (ix_ge (n := 8) rfl) c25)
      exact J_ret (pc := 41) rfl rfl dX11_tellsNothing_41 (rqv hQ rfl)
    · refine J_iload_n (pc := 22) dX11_tellsNothing_22 rfl ?_
      refine J_bipush (pc := 23) (v := 8) dX11_tellsNothing_23 (by decide) ?_
      refine J_icmp_ge (pc := 25) (tgt := 41) dX11_tellsNothing_25 (by decide) (fun c25 => absurd c25 (ix_lt (n := 8) rfl hi (by decide))) (fun c25 => ?_)
      refine J_aload_n (pc := 28) dX11_tellsNothing_28 rfl ?_
      refine J_getr (pc := 29) dX11_tellsNothing_29 kc11 fl_X11_32 rfl ?_
      refine J_iload_n (pc := 32) dX11_tellsNothing_32 rfl ?_
      refine J_iconst (pc := 33) (v := -1) dX11_tellsNothing_33 (by decide) ?_
      refine J_is (pc := 34) dX11_tellsNothing_34 (by first | rfl | assumption) (show ix i = nI (0 + i) by rw [ix_nI, Nat.zero_add]) ⟨by first | decide | omega, by decide⟩ ?_
      refine J_iinc (pc := 35) (v := 1) dX11_tellsNothing_35 rfl (by decide) rfl ?_
      refine J_goto (pc := 38) (tgt := 22) dX11_tellsNothing_38 (by decide) ?_
      exact ih
  · refine J_iload_n (pc := 2) dX11_tellsNothing_2 rfl ?_
    refine J_iconst (pc := 3) (v := 3) dX11_tellsNothing_3 (by decide) ?_
    refine J_icmp_ge (pc := 4) (tgt := 20) dX11_tellsNothing_4 (by decide) (fun c4 => absurd c4 (ix_lt (n := 3) rfl hi (by decide))) (fun c4 => ?_)
    refine J_aload_n (pc := 7) dX11_tellsNothing_7 rfl ?_
    refine J_getr (pc := 8) dX11_tellsNothing_8 kc11 fl_X11_20 rfl ?_
    refine J_iload_n (pc := 11) dX11_tellsNothing_11 rfl ?_
    refine J_iconst (pc := 12) (v := 0) dX11_tellsNothing_12 (by decide) ?_
    refine J_is (pc := 13) dX11_tellsNothing_13 (by first | rfl | assumption) (show ix i = nI (0 + i) by rw [ix_nI, Nat.zero_add]) ⟨by first | decide | omega, by decide⟩ ?_
    refine J_iinc (pc := 14) (v := 1) dX11_tellsNothing_14 rfl (by decide) rfl ?_
    refine J_goto (pc := 17) (tgt := 2) dX11_tellsNothing_17 (by decide) ?_
    exact ih
theorem r_X11_beginsAnew {g : Gp} {S : Sx} {nr np : Nat} (h1 : sa S 62 1 = nI nr) (h2 : sa S 62 2 = nI np) (hn1 : nr ≤ 10) (hn2 : np ≤ 8) : RT g mX11_beginsAnew 1 [.ref 59] S none (bgS S nr np) := by
  refine RT_ofQ ⟨rfl, rfl⟩ (Nat.le_of_ble_eq_true rfl) (fun sz Q hQ => ?_)
  refine J_iconst (pc := 0) (v := 0) dX11_beginsAnew_0 (by decide) ?_
  refine J_istore_n (pc := 1) dX11_beginsAnew_1 (by decide) rfl ?_
  show J g mX11_beginsAnew 1 [] 2 [some (.ref 59), some (.int (ix 0))] [] (hs (cpS S 62 63 0)) sz 0 0 Q
  refine dn_ind (n := 3) (P := fun i => J g mX11_beginsAnew 1 [] 2 [some (.ref 59), some (.int (ix i))] [] (hs (cpS S 62 63 i)) sz 0 0 Q) ?_ (fun i hi ih => ?_) 0 (Nat.zero_le _)
  · refine J_iload_n (pc := 2) dX11_beginsAnew_2 rfl ?_
    refine J_iconst (pc := 3) (v := 3) dX11_beginsAnew_3 (by decide) ?_
    refine J_icmp_ge (pc := 4) (tgt := 25) dX11_beginsAnew_4 (by decide) (fun c4 => ?_) (fun c4 => absurd (ix_ge (n := 3) rfl) c4)
    refine J_iconst (pc := 25) (v := 0) dX11_beginsAnew_25 (by decide) ?_
    refine J_istore_n (pc := 26) dX11_beginsAnew_26 (by decide) rfl ?_
    obtain ⟨Z1, hZ1⟩ : ∃ Z, Z = cpS S 62 63 3 := ⟨_, rfl⟩
    rw [← hZ1]
    show J g mX11_beginsAnew 1 [] 27 [some (.ref 59), some (.int (ix 0))] [] (hs (cp2 Z1 0)) sz 0 0 Q
    refine dn_ind (n := 8) (P := fun i => J g mX11_beginsAnew 1 [] 27 [some (.ref 59), some (.int (ix i))] [] (hs (cp2 Z1 i)) sz 0 0 Q) ?_ (fun i hi ih => ?_) 0 (Nat.zero_le _)
    · refine J_iload_n (pc := 27) dX11_beginsAnew_27 rfl ?_
      refine J_bipush (pc := 28) (v := 8) dX11_beginsAnew_28 (by decide) ?_
      refine J_icmp_ge (pc := 30) (tgt := 63) dX11_beginsAnew_30 (by decide) (fun c30 => ?_) (fun c30 => absurd (ix_ge (n := 8) rfl) c30)
      refine J_aload_n (pc := 63) dX11_beginsAnew_63 rfl ?_
      refine J_getr (pc := 64) dX11_beginsAnew_64 kc11 fl_X11_40 rfl ?_
      refine J_aload_n (pc := 67) dX11_beginsAnew_67 rfl ?_
      refine J_getr (pc := 68) dX11_beginsAnew_68 kc11 fl_X11_43 rfl ?_
      refine J_aload_n (pc := 71) dX11_beginsAnew_71 rfl ?_
      refine J_getr (pc := 72) dX11_beginsAnew_72 kc11 fl_X11_23 rfl ?_
      refine J_iconst (pc := 75) (v := 1) dX11_beginsAnew_75 (by decide) ?_
      refine J_il (pc := 76) dX11_beginsAnew_76 (by first | rfl | assumption) (rfl : (1 : Int32) = nI 1) ⟨by first | decide | omega, by decide⟩ ?_
      refine J_t1 (y := nI nr) (by rw [cp2_o _ (by decide) (by decide), hZ1, cpS_s S (by decide)]; exact h1) ?_
      refine J_csv (pc := 77) (N := mX11_lays) dX11_beginsAnew_77 ml_X11_196 cf_X11_lays cs_X11_lays (r_X11_lays (A := 68) (a0 := 69) (B := 79) (b0 := 80) (N := 10) (w := 3) (m := nr) rfl rfl (fun k hk => lay_readRelic hk) (fun k hk => lay_relic hk) (by omega) hn1 (by decide) (by decide)) rfl rfl (Nat.le_of_ble_eq_true rfl) (by decide) ?_
      refine J_aload_n (pc := 80) dX11_beginsAnew_80 rfl ?_
      refine J_getr (pc := 81) dX11_beginsAnew_81 kc11 fl_X11_46 rfl ?_
      refine J_aload_n (pc := 84) dX11_beginsAnew_84 rfl ?_
      refine J_getr (pc := 85) dX11_beginsAnew_85 kc11 fl_X11_49 rfl ?_
      refine J_aload_n (pc := 88) dX11_beginsAnew_88 rfl ?_
      refine J_getr (pc := 89) dX11_beginsAnew_89 kc11 fl_X11_23 rfl ?_
      refine J_iconst (pc := 92) (v := 2) dX11_beginsAnew_92 (by decide) ?_
      refine J_il (pc := 93) dX11_beginsAnew_93 (by first | rfl | assumption) (rfl : (2 : Int32) = nI 2) ⟨by first | decide | omega, by decide⟩ ?_
      refine J_t1 (y := nI np) (by rw [ly_o (by omega), cp2_o _ (by decide) (by decide), hZ1, cpS_s S (by decide)]; exact h2) ?_
      refine J_csv (pc := 94) (N := mX11_lays) dX11_beginsAnew_94 ml_X11_196 cf_X11_lays cs_X11_lays (r_X11_lays (A := 90) (a0 := 91) (B := 99) (b0 := 100) (N := 8) (w := 2) (m := np) rfl rfl (fun k hk => lay_readPilgrim hk) (fun k hk => lay_pilgrim hk) (by omega) hn2 (by decide) (by decide)) rfl rfl (Nat.le_of_ble_eq_true rfl) (by decide) ?_
      refine J_iconst (pc := 97) (v := 0) dX11_beginsAnew_97 (by decide) ?_
      refine J_istore_n (pc := 98) dX11_beginsAnew_98 (by decide) rfl ?_
      obtain ⟨Z4, hZ4⟩ : ∃ Z, Z = lyS (lyS (cp2 Z1 8) 69 80 3 nr 0) 91 100 2 np 0 := ⟨_, rfl⟩
      rw [← hZ4]
      show J g mX11_beginsAnew 1 [] 99 [some (.ref 59), some (.int (ix 0))] [] (hs (flS Z4 535 0 0 0)) sz 0 0 Q
      refine dn_ind (n := 45) (P := fun i => J g mX11_beginsAnew 1 [] 99 [some (.ref 59), some (.int (ix i))] [] (hs (flS Z4 535 0 0 i)) sz 0 0 Q) ?_ (fun i hi ih => ?_) 0 (Nat.zero_le _)
      · refine J_iload_n (pc := 99) dX11_beginsAnew_99 rfl ?_
        refine J_bipush (pc := 100) (v := 45) dX11_beginsAnew_100 (by decide) ?_
        refine J_icmp_ge (pc := 102) (tgt := 118) dX11_beginsAnew_102 (by decide) (fun c102 => ?_) (fun c102 => absurd (ix_ge (n := 45) rfl) c102)
        refine J_iconst (pc := 118) (v := 0) dX11_beginsAnew_118 (by decide) ?_
        refine J_istore_n (pc := 119) dX11_beginsAnew_119 (by decide) rfl ?_
        obtain ⟨Z5, hZ5⟩ : ∃ Z, Z = flS Z4 535 0 0 45 := ⟨_, rfl⟩
        rw [← hZ5]
        show J g mX11_beginsAnew 1 [] 120 [some (.ref 59), some (.int (ix 0))] [] (hs (flS Z5 535 16 (-1) 0)) sz 0 0 Q
        refine dn_ind (n := 10) (P := fun i => J g mX11_beginsAnew 1 [] 120 [some (.ref 59), some (.int (ix i))] [] (hs (flS Z5 535 16 (-1) i)) sz 0 0 Q) ?_ (fun i hi ih => ?_) 0 (Nat.zero_le _)
        · refine J_iload_n (pc := 120) dX11_beginsAnew_120 rfl ?_
          refine J_bipush (pc := 121) (v := 10) dX11_beginsAnew_121 (by decide) ?_
          refine J_icmp_ge (pc := 123) (tgt := 142) dX11_beginsAnew_123 (by decide) (fun c123 => ?_) (fun c123 => absurd (ix_ge (n := 10) rfl) c123)
          refine J_iconst (pc := 142) (v := 0) dX11_beginsAnew_142 (by decide) ?_
          refine J_istore_n (pc := 143) dX11_beginsAnew_143 (by decide) rfl ?_
          obtain ⟨Z6, hZ6⟩ : ∃ Z, Z = flS Z5 535 16 (-1) 10 := ⟨_, rfl⟩
          rw [← hZ6]
          show J g mX11_beginsAnew 1 [] 144 [some (.ref 59), some (.int (ix 0))] [] (hs (flS Z6 535 36 (-1) 0)) sz 0 0 Q
          refine dn_ind (n := 8) (P := fun i => J g mX11_beginsAnew 1 [] 144 [some (.ref 59), some (.int (ix i))] [] (hs (flS Z6 535 36 (-1) i)) sz 0 0 Q) ?_ (fun i hi ih => ?_) 0 (Nat.zero_le _)
          · refine J_iload_n (pc := 144) dX11_beginsAnew_144 rfl ?_
            refine J_bipush (pc := 145) (v := 8) dX11_beginsAnew_145 (by decide) ?_
            refine J_icmp_ge (pc := 147) (tgt := 166) dX11_beginsAnew_147 (by decide) (fun c147 => ?_) (fun c147 => absurd (ix_ge (n := 8) rfl) c147)
            refine J_aload_n (pc := 166) dX11_beginsAnew_166 rfl ?_
            refine J_iconst (pc := 167) (v := 0) dX11_beginsAnew_167 (by decide) ?_
            refine J_puti (pc := 168) dX11_beginsAnew_168 kc11 fl_X11_200 rfl ⟨rfl, rfl⟩ ?_
            refine J_aload_n (pc := 171) dX11_beginsAnew_171 rfl ?_
            refine J_iconst (pc := 172) (v := 0) dX11_beginsAnew_172 (by decide) ?_
            refine J_puti (pc := 173) dX11_beginsAnew_173 kc11 fl_X11_203 rfl ⟨rfl, rfl⟩ ?_
            refine J_aload_n (pc := 176) dX11_beginsAnew_176 rfl ?_
            refine J_iconst (pc := 177) (v := 0) dX11_beginsAnew_177 (by decide) ?_
            refine J_puti (pc := 178) dX11_beginsAnew_178 kc11 fl_X11_206 rfl ⟨rfl, rfl⟩ ?_
            refine J_aload_n (pc := 181) dX11_beginsAnew_181 rfl ?_
            refine J_iconst (pc := 182) (v := 0) dX11_beginsAnew_182 (by decide) ?_
            refine J_puti (pc := 183) dX11_beginsAnew_183 kc11 fl_X11_209 rfl ⟨rfl, rfl⟩ ?_
            refine J_aload_n (pc := 186) dX11_beginsAnew_186 rfl ?_
            refine J_iconst (pc := 187) (v := 0) dX11_beginsAnew_187 (by decide) ?_
            refine J_puti (pc := 188) dX11_beginsAnew_188 kc11 fl_X11_212 rfl ⟨rfl, rfl⟩ ?_
            exact J_ret (pc := 191) rfl rfl dX11_beginsAnew_191 (rqv hQ (by rw [hZ6, hZ5, hZ4, hZ1]; rfl))
          · refine J_iload_n (pc := 144) dX11_beginsAnew_144 rfl ?_
            refine J_bipush (pc := 145) (v := 8) dX11_beginsAnew_145 (by decide) ?_
            refine J_icmp_ge (pc := 147) (tgt := 166) dX11_beginsAnew_147 (by decide) (fun c147 => absurd c147 (ix_lt (n := 8) rfl hi (by decide))) (fun c147 => ?_)
            refine J_aload_n (pc := 150) dX11_beginsAnew_150 rfl ?_
            refine J_getr (pc := 151) dX11_beginsAnew_151 kc11 fl_X11_73 rfl ?_
            refine J_bipush (pc := 154) (v := 36) dX11_beginsAnew_154 (by decide) ?_
            refine J_iload_n (pc := 156) dX11_beginsAnew_156 rfl ?_
            refine J_iadd (pc := 157) dX11_beginsAnew_157 ?_
            refine J_iconst (pc := 158) (v := -1) dX11_beginsAnew_158 (by decide) ?_
            refine J_is (pc := 159) dX11_beginsAnew_159 (by first | rfl | assumption) (by rw [ix_nI]; exact nI_add 36 i) ⟨by first | decide | omega, by decide⟩ ?_
            refine J_iinc (pc := 160) (v := 1) dX11_beginsAnew_160 rfl (by decide) rfl ?_
            refine J_goto (pc := 163) (tgt := 144) dX11_beginsAnew_163 (by decide) ?_
            exact ih
        · refine J_iload_n (pc := 120) dX11_beginsAnew_120 rfl ?_
          refine J_bipush (pc := 121) (v := 10) dX11_beginsAnew_121 (by decide) ?_
          refine J_icmp_ge (pc := 123) (tgt := 142) dX11_beginsAnew_123 (by decide) (fun c123 => absurd c123 (ix_lt (n := 10) rfl hi (by decide))) (fun c123 => ?_)
          refine J_aload_n (pc := 126) dX11_beginsAnew_126 rfl ?_
          refine J_getr (pc := 127) dX11_beginsAnew_127 kc11 fl_X11_73 rfl ?_
          refine J_bipush (pc := 130) (v := 16) dX11_beginsAnew_130 (by decide) ?_
          refine J_iload_n (pc := 132) dX11_beginsAnew_132 rfl ?_
          refine J_iadd (pc := 133) dX11_beginsAnew_133 ?_
          refine J_iconst (pc := 134) (v := -1) dX11_beginsAnew_134 (by decide) ?_
          refine J_is (pc := 135) dX11_beginsAnew_135 (by first | rfl | assumption) (by rw [ix_nI]; exact nI_add 16 i) ⟨by first | decide | omega, by decide⟩ ?_
          refine J_iinc (pc := 136) (v := 1) dX11_beginsAnew_136 rfl (by decide) rfl ?_
          refine J_goto (pc := 139) (tgt := 120) dX11_beginsAnew_139 (by decide) ?_
          exact ih
      · refine J_iload_n (pc := 99) dX11_beginsAnew_99 rfl ?_
        refine J_bipush (pc := 100) (v := 45) dX11_beginsAnew_100 (by decide) ?_
        refine J_icmp_ge (pc := 102) (tgt := 118) dX11_beginsAnew_102 (by decide) (fun c102 => absurd c102 (ix_lt (n := 45) rfl hi (by decide))) (fun c102 => ?_)
        refine J_aload_n (pc := 105) dX11_beginsAnew_105 rfl ?_
        refine J_getr (pc := 106) dX11_beginsAnew_106 kc11 fl_X11_73 rfl ?_
        refine J_iload_n (pc := 109) dX11_beginsAnew_109 rfl ?_
        refine J_iconst (pc := 110) (v := 0) dX11_beginsAnew_110 (by decide) ?_
        refine J_is (pc := 111) dX11_beginsAnew_111 (by first | rfl | assumption) (show ix i = nI (0 + i) by rw [ix_nI, Nat.zero_add]) ⟨by first | decide | omega, by decide⟩ ?_
        refine J_iinc (pc := 112) (v := 1) dX11_beginsAnew_112 rfl (by decide) rfl ?_
        refine J_goto (pc := 115) (tgt := 99) dX11_beginsAnew_115 (by decide) ?_
        exact ih
    · refine J_iload_n (pc := 27) dX11_beginsAnew_27 rfl ?_
      refine J_bipush (pc := 28) (v := 8) dX11_beginsAnew_28 (by decide) ?_
      refine J_icmp_ge (pc := 30) (tgt := 63) dX11_beginsAnew_30 (by decide) (fun c30 => absurd c30 (ix_lt (n := 8) rfl hi (by decide))) (fun c30 => ?_)
      refine J_aload_n (pc := 33) dX11_beginsAnew_33 rfl ?_
      refine J_getr (pc := 34) dX11_beginsAnew_34 kc11 fl_X11_29 rfl ?_
      refine J_iload_n (pc := 37) dX11_beginsAnew_37 rfl ?_
      refine J_aload_n (pc := 38) dX11_beginsAnew_38 rfl ?_
      refine J_getr (pc := 39) dX11_beginsAnew_39 kc11 fl_X11_26 rfl ?_
      refine J_iload_n (pc := 42) dX11_beginsAnew_42 rfl ?_
      refine J_il (pc := 43) dX11_beginsAnew_43 (by first | rfl | assumption) (by first | with_reducible rfl | assumption | exact ix_nI _ | rfl) ⟨by first | decide | omega, by decide⟩ ?_
      refine J_is (pc := 44) dX11_beginsAnew_44 (by first | rfl | assumption) (by first | with_reducible rfl | assumption | exact ix_nI _ | rfl) ⟨by first | decide | omega, by decide⟩ ?_
      refine J_aload_n (pc := 45) dX11_beginsAnew_45 rfl ?_
      refine J_getr (pc := 46) dX11_beginsAnew_46 kc11 fl_X11_35 rfl ?_
      refine J_iload_n (pc := 49) dX11_beginsAnew_49 rfl ?_
      refine J_aload_n (pc := 50) dX11_beginsAnew_50 rfl ?_
      refine J_getr (pc := 51) dX11_beginsAnew_51 kc11 fl_X11_32 rfl ?_
      refine J_iload_n (pc := 54) dX11_beginsAnew_54 rfl ?_
      refine J_il (pc := 55) dX11_beginsAnew_55 (by first | rfl | assumption) (by first | with_reducible rfl | assumption | exact ix_nI _ | rfl) ⟨by first | decide | omega, by decide⟩ ?_
      refine J_is (pc := 56) dX11_beginsAnew_56 (by first | rfl | assumption) (by first | with_reducible rfl | assumption | exact ix_nI _ | rfl) ⟨by first | decide | omega, by decide⟩ ?_
      refine J_iinc (pc := 57) (v := 1) dX11_beginsAnew_57 rfl (by decide) rfl ?_
      refine J_goto (pc := 60) (tgt := 27) dX11_beginsAnew_60 (by decide) ?_
      exact ih
  · refine J_iload_n (pc := 2) dX11_beginsAnew_2 rfl ?_
    refine J_iconst (pc := 3) (v := 3) dX11_beginsAnew_3 (by decide) ?_
    refine J_icmp_ge (pc := 4) (tgt := 25) dX11_beginsAnew_4 (by decide) (fun c4 => absurd c4 (ix_lt (n := 3) rfl hi (by decide))) (fun c4 => ?_)
    refine J_aload_n (pc := 7) dX11_beginsAnew_7 rfl ?_
    refine J_getr (pc := 8) dX11_beginsAnew_8 kc11 fl_X11_23 rfl ?_
    refine J_iload_n (pc := 11) dX11_beginsAnew_11 rfl ?_
    refine J_aload_n (pc := 12) dX11_beginsAnew_12 rfl ?_
    refine J_getr (pc := 13) dX11_beginsAnew_13 kc11 fl_X11_20 rfl ?_
    refine J_iload_n (pc := 16) dX11_beginsAnew_16 rfl ?_
    refine J_il (pc := 17) dX11_beginsAnew_17 (by first | rfl | assumption) (by first | with_reducible rfl | assumption | exact ix_nI _ | rfl) ⟨by first | decide | omega, by decide⟩ ?_
    refine J_is (pc := 18) dX11_beginsAnew_18 (by first | rfl | assumption) (by first | with_reducible rfl | assumption | exact ix_nI _ | rfl) ⟨by first | decide | omega, by decide⟩ ?_
    refine J_iinc (pc := 19) (v := 1) dX11_beginsAnew_19 rfl (by decide) rfl ?_
    refine J_goto (pc := 22) (tgt := 2) dX11_beginsAnew_22 (by decide) ?_
    exact ih

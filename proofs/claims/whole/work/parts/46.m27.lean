/-! ===== which word stands here; the reading's beginning and end ===== -/
theorem ps_sF (S : Sx) (t : PT) {y : Nat} {v : Int32} (h4 : y ≠ 4) (h5 : y ≠ 5) (h6 : y ≠ 6) : sF (ps S t) 59 y v = ps (sF S 59 y v) t := by
  have : up2 (sf (ps S t)) 59 y v = sf (ps (sF S 59 y v) t) := by
    funext x z
    by_cases hx : x = 59
    · subst hx
      by_cases hz : z = y
      · subst hz
        simp [up2, ps, sf, sF, h4, h5, h6]
      · simp [up2, ps, sf, sF, hz]
    · simp [up2, ps, sf, sF, hx]
  show (up2 (sf (ps S t)) 59 y v, _, _, _, _) = _
  rw [this]
  rfl
theorem ps_sA (S : Sx) (t : PT) (a k : Nat) (v : Int32) : sA (ps S t) a k v = ps (sA S a k v) t := rfl
theorem wix_f {cc : Nat → Nat} {n a k : Nat} {w : List Nat} {ws : List (List Nat)} (h : wIs cc n a w = false) : wix cc n a (w :: ws) k = wix cc n a ws (k + 1) := by
  show (if wIs cc n a w = true then some k else _) = _
  rw [if_neg (by rw [h]; decide)]
theorem wix_t {cc : Nat → Nat} {n a k : Nat} {w : List Nat} {ws : List (List Nat)} (h : wIs cc n a w = true) : wix cc n a (w :: ws) k = some k := if_pos h
def wHou : List (List Nat) := [[115, 105, 115, 116, 101, 114], [114, 101, 108, 105, 99], [112, 105, 108, 103, 114, 105, 109], [118, 111, 119]]
def wLaw : List (List Nat) := [[119, 111, 114, 116, 104], [100, 97, 121, 115], [108, 97, 112, 115, 101, 115], [116, 101, 109, 112, 116, 101, 100], [105, 108, 108], [111, 116, 104, 101, 114, 115], [115, 105, 115, 116, 101, 114], [100, 97, 121]]
def wStp : List (List Nat) := [[103, 105, 118, 101], [98, 97, 99, 107], [108, 97, 112, 115, 101], [99, 117, 114, 101], [100, 105, 101], [100, 97, 121], [97, 103, 97, 105, 110]]
def wLM : List (List Nat) := [[108, 101, 97, 115, 116], [109, 111, 115, 116]]
theorem r_X11_kindHere {g : Gp} {S : Sx} {a b h : Nat} {n : Nat} {cc : Nat → Nat} (hx : TX S n cc) (ha : a ≤ n) (hb : pbl cc n a = b) : RT g mX11_kindHere 4 [.ref 59] (ps S (a, 0, h)) (some (.int (ov (wix cc n b wHou 0)))) (ps S (b, 0, h)) := by
  refine RT_ofQ ⟨rfl, rfl⟩ (Nat.le_of_ble_eq_true rfl) (fun sz Q hQ => ?_)
  have hn6 := hx.2.1
  have hbn : b ≤ n := by rw [← hb]; exact pbl_le cc ha
  have hbb : pbl cc n b = b := by rw [← hb]; exact pbl_pbl (hx.2.2.2 n (Nat.le_refl _)) ha
  cases w0 : wIs cc n b [115, 105, 115, 116, 101, 114]
  · refine J_aload_n (pc := 0) dX11_kindHere_0 rfl ?_
    refine J_bipush (pc := 1) (v := 19) dX11_kindHere_1 (by decide) ?_
    refine J_bipush (pc := 3) (v := 9) dX11_kindHere_3 (by decide) ?_
    refine J_bipush (pc := 5) (v := 19) dX11_kindHere_5 (by decide) ?_
    refine J_bipush (pc := 7) (v := 20) dX11_kindHere_7 (by decide) ?_
    refine J_iconst (pc := 9) (v := 5) dX11_kindHere_9 (by decide) ?_
    refine J_bipush (pc := 10) (v := 18) dX11_kindHere_10 (by decide) ?_
    refine J_cvr (pc := 12) (N := mX11_isWord) dX11_kindHere_12 ml_X11_152 cf_X11_isWord cv_X11_isWord (r_X11_isWord (S := S) (a := a) (b := b) (h := h) (y := false) (w := [115, 105, 115, 116, 101, 114]) hx ha hb (by decide) (by decide) (by decide +kernel) w0) rfl rfl (Nat.le_of_ble_eq_true rfl) (by decide) (rv_of (ci := 11) rfl rfl rfl) ?_
    skip
    refine J_if_eq (pc := 15) (tgt := 20) dX11_kindHere_15 (by decide) (fun c15 => ?_) (fun c15 => absurd (show bI false = 0 from rfl) c15)
    cases w1 : wIs cc n b [114, 101, 108, 105, 99]
    · refine J_aload_n (pc := 20) dX11_kindHere_20 rfl ?_
      refine J_bipush (pc := 21) (v := 18) dX11_kindHere_21 (by decide) ?_
      refine J_iconst (pc := 23) (v := 5) dX11_kindHere_23 (by decide) ?_
      refine J_bipush (pc := 24) (v := 12) dX11_kindHere_24 (by decide) ?_
      refine J_bipush (pc := 26) (v := 9) dX11_kindHere_26 (by decide) ?_
      refine J_iconst (pc := 28) (v := 3) dX11_kindHere_28 (by decide) ?_
      refine J_iconst (pc := 29) (v := 0) dX11_kindHere_29 (by decide) ?_
      refine J_cvr (pc := 30) (N := mX11_isWord) dX11_kindHere_30 ml_X11_152 cf_X11_isWord cv_X11_isWord (r_X11_isWord (S := S) (a := b) (b := b) (h := h) (y := false) (w := [114, 101, 108, 105, 99]) hx hbn hbb (by decide) (by decide) (by decide +kernel) w1) rfl rfl (Nat.le_of_ble_eq_true rfl) (by decide) (rv_of (ci := 11) rfl rfl rfl) ?_
      skip
      refine J_if_eq (pc := 33) (tgt := 38) dX11_kindHere_33 (by decide) (fun c33 => ?_) (fun c33 => absurd (show bI false = 0 from rfl) c33)
      cases w2 : wIs cc n b [112, 105, 108, 103, 114, 105, 109]
      · refine J_aload_n (pc := 38) dX11_kindHere_38 rfl ?_
        refine J_geti (pc := 39) dX11_kindHere_39 kc11 fl_X11_119 rfl ?_
        refine J_if_ne (pc := 42) (tgt := 54) dX11_kindHere_42 (by decide) (fun c42 => absurd (show nI 0 = 0 from rfl) c42) (fun c42 => ?_)
        refine J_aload_n (pc := 45) dX11_kindHere_45 rfl ?_
        refine J_cvr (pc := 46) (N := mX11_isPilgrim) dX11_kindHere_46 ml_X11_165 cf_X11_isPilgrim cv_X11_isPilgrim (r_X11_isPilgrim (S := S) (a := b) (b := b) (h := h) (y := false) hx hbn hbb w2) rfl rfl (Nat.le_of_ble_eq_true rfl) (by decide) (rv_of (ci := 11) rfl rfl rfl) ?_
        skip
        refine J_if_eq (pc := 49) (tgt := 54) dX11_kindHere_49 (by decide) (fun c49 => ?_) (fun c49 => absurd (show bI false = 0 from rfl) c49)
        cases w3 : wIs cc n b [118, 111, 119]
        · refine J_aload_n (pc := 54) dX11_kindHere_54 rfl ?_
          refine J_bipush (pc := 55) (v := 22) dX11_kindHere_55 (by decide) ?_
          refine J_bipush (pc := 57) (v := 15) dX11_kindHere_57 (by decide) ?_
          refine J_bipush (pc := 59) (v := 23) dX11_kindHere_59 (by decide) ?_
          refine J_iconst (pc := 61) (v := 0) dX11_kindHere_61 (by decide) ?_
          refine J_iconst (pc := 62) (v := 0) dX11_kindHere_62 (by decide) ?_
          refine J_iconst (pc := 63) (v := 0) dX11_kindHere_63 (by decide) ?_
          refine J_cvr (pc := 64) (N := mX11_isWord) dX11_kindHere_64 ml_X11_152 cf_X11_isWord cv_X11_isWord (r_X11_isWord (S := S) (a := b) (b := b) (h := h) (y := false) (w := [118, 111, 119]) hx hbn hbb (by decide) (by decide) (by decide +kernel) w3) rfl rfl (Nat.le_of_ble_eq_true rfl) (by decide) (rv_of (ci := 11) rfl rfl rfl) ?_
          skip
          refine J_if_eq (pc := 67) (tgt := 74) dX11_kindHere_67 (by decide) (fun c67 => ?_) (fun c67 => absurd (show bI false = 0 from rfl) c67)
          refine J_iconst (pc := 74) (v := -1) dX11_kindHere_74 (by decide) ?_
          exact J_iret (pc := 75) rfl rfl rfl dX11_kindHere_75 (rq hQ (by have e : wix cc n b wHou 0 = none := (by show wix cc n b [[115, 105, 115, 116, 101, 114], [114, 101, 108, 105, 99], [112, 105, 108, 103, 114, 105, 109], [118, 111, 119]] 0 = _; rw [wix_f w0, wix_f w1, wix_f w2, wix_f w3]; rfl); rw [e]; rfl) rfl)
        · refine J_aload_n (pc := 54) dX11_kindHere_54 rfl ?_
          refine J_bipush (pc := 55) (v := 22) dX11_kindHere_55 (by decide) ?_
          refine J_bipush (pc := 57) (v := 15) dX11_kindHere_57 (by decide) ?_
          refine J_bipush (pc := 59) (v := 23) dX11_kindHere_59 (by decide) ?_
          refine J_iconst (pc := 61) (v := 0) dX11_kindHere_61 (by decide) ?_
          refine J_iconst (pc := 62) (v := 0) dX11_kindHere_62 (by decide) ?_
          refine J_iconst (pc := 63) (v := 0) dX11_kindHere_63 (by decide) ?_
          refine J_cvr (pc := 64) (N := mX11_isWord) dX11_kindHere_64 ml_X11_152 cf_X11_isWord cv_X11_isWord (r_X11_isWord (S := S) (a := b) (b := b) (h := h) (y := true) (w := [118, 111, 119]) hx hbn hbb (by decide) (by decide) (by decide +kernel) w3) rfl rfl (Nat.le_of_ble_eq_true rfl) (by decide) (rv_of (ci := 11) rfl rfl rfl) ?_
          skip
          refine J_if_eq (pc := 67) (tgt := 74) dX11_kindHere_67 (by decide) (fun c67 => absurd c67 (show ¬ bI true = 0 by decide)) (fun c67 => ?_)
          refine J_iconst (pc := 70) (v := 3) dX11_kindHere_70 (by decide) ?_
          refine J_goto (pc := 71) (tgt := 75) dX11_kindHere_71 (by decide) ?_
          exact J_iret (pc := 75) rfl rfl rfl dX11_kindHere_75 (rq hQ (by have e : wix cc n b wHou 0 = some 3 := (by show wix cc n b [[115, 105, 115, 116, 101, 114], [114, 101, 108, 105, 99], [112, 105, 108, 103, 114, 105, 109], [118, 111, 119]] 0 = _; rw [wix_f w0, wix_f w1, wix_f w2, wix_t w3]); rw [e]; rfl) rfl)
      · refine J_aload_n (pc := 38) dX11_kindHere_38 rfl ?_
        refine J_geti (pc := 39) dX11_kindHere_39 kc11 fl_X11_119 rfl ?_
        refine J_if_ne (pc := 42) (tgt := 54) dX11_kindHere_42 (by decide) (fun c42 => absurd (show nI 0 = 0 from rfl) c42) (fun c42 => ?_)
        refine J_aload_n (pc := 45) dX11_kindHere_45 rfl ?_
        refine J_cvr (pc := 46) (N := mX11_isPilgrim) dX11_kindHere_46 ml_X11_165 cf_X11_isPilgrim cv_X11_isPilgrim (r_X11_isPilgrim (S := S) (a := b) (b := b) (h := h) (y := true) hx hbn hbb w2) rfl rfl (Nat.le_of_ble_eq_true rfl) (by decide) (rv_of (ci := 11) rfl rfl rfl) ?_
        skip
        refine J_if_eq (pc := 49) (tgt := 54) dX11_kindHere_49 (by decide) (fun c49 => absurd c49 (show ¬ bI true = 0 by decide)) (fun c49 => ?_)
        refine J_iconst (pc := 52) (v := 2) dX11_kindHere_52 (by decide) ?_
        exact J_iret (pc := 53) rfl rfl rfl dX11_kindHere_53 (rq hQ (by have e : wix cc n b wHou 0 = some 2 := (by show wix cc n b [[115, 105, 115, 116, 101, 114], [114, 101, 108, 105, 99], [112, 105, 108, 103, 114, 105, 109], [118, 111, 119]] 0 = _; rw [wix_f w0, wix_f w1, wix_t w2]); rw [e]; rfl) rfl)
    · refine J_aload_n (pc := 20) dX11_kindHere_20 rfl ?_
      refine J_bipush (pc := 21) (v := 18) dX11_kindHere_21 (by decide) ?_
      refine J_iconst (pc := 23) (v := 5) dX11_kindHere_23 (by decide) ?_
      refine J_bipush (pc := 24) (v := 12) dX11_kindHere_24 (by decide) ?_
      refine J_bipush (pc := 26) (v := 9) dX11_kindHere_26 (by decide) ?_
      refine J_iconst (pc := 28) (v := 3) dX11_kindHere_28 (by decide) ?_
      refine J_iconst (pc := 29) (v := 0) dX11_kindHere_29 (by decide) ?_
      refine J_cvr (pc := 30) (N := mX11_isWord) dX11_kindHere_30 ml_X11_152 cf_X11_isWord cv_X11_isWord (r_X11_isWord (S := S) (a := b) (b := b) (h := h) (y := true) (w := [114, 101, 108, 105, 99]) hx hbn hbb (by decide) (by decide) (by decide +kernel) w1) rfl rfl (Nat.le_of_ble_eq_true rfl) (by decide) (rv_of (ci := 11) rfl rfl rfl) ?_
      skip
      refine J_if_eq (pc := 33) (tgt := 38) dX11_kindHere_33 (by decide) (fun c33 => absurd c33 (show ¬ bI true = 0 by decide)) (fun c33 => ?_)
      refine J_iconst (pc := 36) (v := 1) dX11_kindHere_36 (by decide) ?_
      exact J_iret (pc := 37) rfl rfl rfl dX11_kindHere_37 (rq hQ (by have e : wix cc n b wHou 0 = some 1 := (by show wix cc n b [[115, 105, 115, 116, 101, 114], [114, 101, 108, 105, 99], [112, 105, 108, 103, 114, 105, 109], [118, 111, 119]] 0 = _; rw [wix_f w0, wix_t w1]); rw [e]; rfl) rfl)
  · refine J_aload_n (pc := 0) dX11_kindHere_0 rfl ?_
    refine J_bipush (pc := 1) (v := 19) dX11_kindHere_1 (by decide) ?_
    refine J_bipush (pc := 3) (v := 9) dX11_kindHere_3 (by decide) ?_
    refine J_bipush (pc := 5) (v := 19) dX11_kindHere_5 (by decide) ?_
    refine J_bipush (pc := 7) (v := 20) dX11_kindHere_7 (by decide) ?_
    refine J_iconst (pc := 9) (v := 5) dX11_kindHere_9 (by decide) ?_
    refine J_bipush (pc := 10) (v := 18) dX11_kindHere_10 (by decide) ?_
    refine J_cvr (pc := 12) (N := mX11_isWord) dX11_kindHere_12 ml_X11_152 cf_X11_isWord cv_X11_isWord (r_X11_isWord (S := S) (a := a) (b := b) (h := h) (y := true) (w := [115, 105, 115, 116, 101, 114]) hx ha hb (by decide) (by decide) (by decide +kernel) w0) rfl rfl (Nat.le_of_ble_eq_true rfl) (by decide) (rv_of (ci := 11) rfl rfl rfl) ?_
    skip
    refine J_if_eq (pc := 15) (tgt := 20) dX11_kindHere_15 (by decide) (fun c15 => absurd c15 (show ¬ bI true = 0 by decide)) (fun c15 => ?_)
    refine J_iconst (pc := 18) (v := 0) dX11_kindHere_18 (by decide) ?_
    exact J_iret (pc := 19) rfl rfl rfl dX11_kindHere_19 (rq hQ (by have e : wix cc n b wHou 0 = some 0 := (by show wix cc n b [[115, 105, 115, 116, 101, 114], [114, 101, 108, 105, 99], [112, 105, 108, 103, 114, 105, 109], [118, 111, 119]] 0 = _; rw [wix_t w0]); rw [e]; rfl) rfl)
theorem r_X11_stepHere {g : Gp} {S : Sx} {a b h : Nat} {n : Nat} {cc : Nat → Nat} (hx : TX S n cc) (ha : a ≤ n) (hb : pbl cc n a = b) : RT g mX11_stepHere 4 [.ref 59] (ps S (a, 0, h)) (some (.int (ov (wix cc n b wStp 0)))) (ps S (b, 0, h)) := by
  refine RT_ofQ ⟨rfl, rfl⟩ (Nat.le_of_ble_eq_true rfl) (fun sz Q hQ => ?_)
  have hn6 := hx.2.1
  have hbn : b ≤ n := by rw [← hb]; exact pbl_le cc ha
  have hbb : pbl cc n b = b := by rw [← hb]; exact pbl_pbl (hx.2.2.2 n (Nat.le_refl _)) ha
  cases w0 : wIs cc n b [103, 105, 118, 101]
  · refine J_aload_n (pc := 0) dX11_stepHere_0 rfl ?_
    refine J_bipush (pc := 1) (v := 7) dX11_stepHere_1 (by decide) ?_
    refine J_bipush (pc := 3) (v := 9) dX11_stepHere_3 (by decide) ?_
    refine J_bipush (pc := 5) (v := 22) dX11_stepHere_5 (by decide) ?_
    refine J_iconst (pc := 7) (v := 5) dX11_stepHere_7 (by decide) ?_
    refine J_iconst (pc := 8) (v := 0) dX11_stepHere_8 (by decide) ?_
    refine J_iconst (pc := 9) (v := 0) dX11_stepHere_9 (by decide) ?_
    refine J_cvr (pc := 10) (N := mX11_isWord) dX11_stepHere_10 ml_X11_152 cf_X11_isWord cv_X11_isWord (r_X11_isWord (S := S) (a := a) (b := b) (h := h) (y := false) (w := [103, 105, 118, 101]) hx ha hb (by decide) (by decide) (by decide +kernel) w0) rfl rfl (Nat.le_of_ble_eq_true rfl) (by decide) (rv_of (ci := 11) rfl rfl rfl) ?_
    skip
    refine J_if_eq (pc := 13) (tgt := 18) dX11_stepHere_13 (by decide) (fun c13 => ?_) (fun c13 => absurd (show bI false = 0 from rfl) c13)
    cases w1 : wIs cc n b [98, 97, 99, 107]
    · refine J_aload_n (pc := 18) dX11_stepHere_18 rfl ?_
      refine J_iconst (pc := 19) (v := 2) dX11_stepHere_19 (by decide) ?_
      refine J_iconst (pc := 20) (v := 1) dX11_stepHere_20 (by decide) ?_
      refine J_iconst (pc := 21) (v := 3) dX11_stepHere_21 (by decide) ?_
      refine J_bipush (pc := 22) (v := 11) dX11_stepHere_22 (by decide) ?_
      refine J_iconst (pc := 24) (v := 0) dX11_stepHere_24 (by decide) ?_
      refine J_iconst (pc := 25) (v := 0) dX11_stepHere_25 (by decide) ?_
      refine J_cvr (pc := 26) (N := mX11_isWord) dX11_stepHere_26 ml_X11_152 cf_X11_isWord cv_X11_isWord (r_X11_isWord (S := S) (a := b) (b := b) (h := h) (y := false) (w := [98, 97, 99, 107]) hx hbn hbb (by decide) (by decide) (by decide +kernel) w1) rfl rfl (Nat.le_of_ble_eq_true rfl) (by decide) (rv_of (ci := 11) rfl rfl rfl) ?_
      skip
      refine J_if_eq (pc := 29) (tgt := 34) dX11_stepHere_29 (by decide) (fun c29 => ?_) (fun c29 => absurd (show bI false = 0 from rfl) c29)
      cases w2 : wIs cc n b [108, 97, 112, 115, 101]
      · refine J_aload_n (pc := 34) dX11_stepHere_34 rfl ?_
        refine J_bipush (pc := 35) (v := 12) dX11_stepHere_35 (by decide) ?_
        refine J_iconst (pc := 37) (v := 1) dX11_stepHere_37 (by decide) ?_
        refine J_bipush (pc := 38) (v := 16) dX11_stepHere_38 (by decide) ?_
        refine J_bipush (pc := 40) (v := 19) dX11_stepHere_40 (by decide) ?_
        refine J_iconst (pc := 42) (v := 5) dX11_stepHere_42 (by decide) ?_
        refine J_iconst (pc := 43) (v := 0) dX11_stepHere_43 (by decide) ?_
        refine J_cvr (pc := 44) (N := mX11_isWord) dX11_stepHere_44 ml_X11_152 cf_X11_isWord cv_X11_isWord (r_X11_isWord (S := S) (a := b) (b := b) (h := h) (y := false) (w := [108, 97, 112, 115, 101]) hx hbn hbb (by decide) (by decide) (by decide +kernel) w2) rfl rfl (Nat.le_of_ble_eq_true rfl) (by decide) (rv_of (ci := 11) rfl rfl rfl) ?_
        skip
        refine J_if_eq (pc := 47) (tgt := 52) dX11_stepHere_47 (by decide) (fun c47 => ?_) (fun c47 => absurd (show bI false = 0 from rfl) c47)
        cases w3 : wIs cc n b [99, 117, 114, 101]
        · refine J_aload_n (pc := 52) dX11_stepHere_52 rfl ?_
          refine J_iconst (pc := 53) (v := 3) dX11_stepHere_53 (by decide) ?_
          refine J_bipush (pc := 54) (v := 21) dX11_stepHere_54 (by decide) ?_
          refine J_bipush (pc := 56) (v := 18) dX11_stepHere_56 (by decide) ?_
          refine J_iconst (pc := 58) (v := 5) dX11_stepHere_58 (by decide) ?_
          refine J_iconst (pc := 59) (v := 0) dX11_stepHere_59 (by decide) ?_
          refine J_iconst (pc := 60) (v := 0) dX11_stepHere_60 (by decide) ?_
          refine J_cvr (pc := 61) (N := mX11_isWord) dX11_stepHere_61 ml_X11_152 cf_X11_isWord cv_X11_isWord (r_X11_isWord (S := S) (a := b) (b := b) (h := h) (y := false) (w := [99, 117, 114, 101]) hx hbn hbb (by decide) (by decide) (by decide +kernel) w3) rfl rfl (Nat.le_of_ble_eq_true rfl) (by decide) (rv_of (ci := 11) rfl rfl rfl) ?_
          skip
          refine J_if_eq (pc := 64) (tgt := 69) dX11_stepHere_64 (by decide) (fun c64 => ?_) (fun c64 => absurd (show bI false = 0 from rfl) c64)
          cases w4 : wIs cc n b [100, 105, 101]
          · refine J_aload_n (pc := 69) dX11_stepHere_69 rfl ?_
            refine J_iconst (pc := 70) (v := 4) dX11_stepHere_70 (by decide) ?_
            refine J_bipush (pc := 71) (v := 9) dX11_stepHere_71 (by decide) ?_
            refine J_iconst (pc := 73) (v := 5) dX11_stepHere_73 (by decide) ?_
            refine J_iconst (pc := 74) (v := 0) dX11_stepHere_74 (by decide) ?_
            refine J_iconst (pc := 75) (v := 0) dX11_stepHere_75 (by decide) ?_
            refine J_iconst (pc := 76) (v := 0) dX11_stepHere_76 (by decide) ?_
            refine J_cvr (pc := 77) (N := mX11_isWord) dX11_stepHere_77 ml_X11_152 cf_X11_isWord cv_X11_isWord (r_X11_isWord (S := S) (a := b) (b := b) (h := h) (y := false) (w := [100, 105, 101]) hx hbn hbb (by decide) (by decide) (by decide +kernel) w4) rfl rfl (Nat.le_of_ble_eq_true rfl) (by decide) (rv_of (ci := 11) rfl rfl rfl) ?_
            skip
            refine J_if_eq (pc := 80) (tgt := 85) dX11_stepHere_80 (by decide) (fun c80 => ?_) (fun c80 => absurd (show bI false = 0 from rfl) c80)
            cases w5 : wIs cc n b [100, 97, 121]
            · refine J_aload_n (pc := 85) dX11_stepHere_85 rfl ?_
              refine J_iconst (pc := 86) (v := 4) dX11_stepHere_86 (by decide) ?_
              refine J_iconst (pc := 87) (v := 1) dX11_stepHere_87 (by decide) ?_
              refine J_bipush (pc := 88) (v := 25) dX11_stepHere_88 (by decide) ?_
              refine J_iconst (pc := 90) (v := 0) dX11_stepHere_90 (by decide) ?_
              refine J_iconst (pc := 91) (v := 0) dX11_stepHere_91 (by decide) ?_
              refine J_iconst (pc := 92) (v := 0) dX11_stepHere_92 (by decide) ?_
              refine J_cvr (pc := 93) (N := mX11_isWord) dX11_stepHere_93 ml_X11_152 cf_X11_isWord cv_X11_isWord (r_X11_isWord (S := S) (a := b) (b := b) (h := h) (y := false) (w := [100, 97, 121]) hx hbn hbb (by decide) (by decide) (by decide +kernel) w5) rfl rfl (Nat.le_of_ble_eq_true rfl) (by decide) (rv_of (ci := 11) rfl rfl rfl) ?_
              skip
              refine J_if_eq (pc := 96) (tgt := 101) dX11_stepHere_96 (by decide) (fun c96 => ?_) (fun c96 => absurd (show bI false = 0 from rfl) c96)
              cases w6 : wIs cc n b [97, 103, 97, 105, 110]
              · refine J_aload_n (pc := 101) dX11_stepHere_101 rfl ?_
                refine J_iconst (pc := 102) (v := 1) dX11_stepHere_102 (by decide) ?_
                refine J_bipush (pc := 103) (v := 7) dX11_stepHere_103 (by decide) ?_
                refine J_iconst (pc := 105) (v := 1) dX11_stepHere_105 (by decide) ?_
                refine J_bipush (pc := 106) (v := 9) dX11_stepHere_106 (by decide) ?_
                refine J_bipush (pc := 108) (v := 14) dX11_stepHere_108 (by decide) ?_
                refine J_iconst (pc := 110) (v := 0) dX11_stepHere_110 (by decide) ?_
                refine J_cvr (pc := 111) (N := mX11_isWord) dX11_stepHere_111 ml_X11_152 cf_X11_isWord cv_X11_isWord (r_X11_isWord (S := S) (a := b) (b := b) (h := h) (y := false) (w := [97, 103, 97, 105, 110]) hx hbn hbb (by decide) (by decide) (by decide +kernel) w6) rfl rfl (Nat.le_of_ble_eq_true rfl) (by decide) (rv_of (ci := 11) rfl rfl rfl) ?_
                skip
                refine J_if_eq (pc := 114) (tgt := 122) dX11_stepHere_114 (by decide) (fun c114 => ?_) (fun c114 => absurd (show bI false = 0 from rfl) c114)
                refine J_iconst (pc := 122) (v := -1) dX11_stepHere_122 (by decide) ?_
                exact J_iret (pc := 123) rfl rfl rfl dX11_stepHere_123 (rq hQ (by have e : wix cc n b wStp 0 = none := (by show wix cc n b [[103, 105, 118, 101], [98, 97, 99, 107], [108, 97, 112, 115, 101], [99, 117, 114, 101], [100, 105, 101], [100, 97, 121], [97, 103, 97, 105, 110]] 0 = _; rw [wix_f w0, wix_f w1, wix_f w2, wix_f w3, wix_f w4, wix_f w5, wix_f w6]; rfl); rw [e]; rfl) rfl)
              · refine J_aload_n (pc := 101) dX11_stepHere_101 rfl ?_
                refine J_iconst (pc := 102) (v := 1) dX11_stepHere_102 (by decide) ?_
                refine J_bipush (pc := 103) (v := 7) dX11_stepHere_103 (by decide) ?_
                refine J_iconst (pc := 105) (v := 1) dX11_stepHere_105 (by decide) ?_
                refine J_bipush (pc := 106) (v := 9) dX11_stepHere_106 (by decide) ?_
                refine J_bipush (pc := 108) (v := 14) dX11_stepHere_108 (by decide) ?_
                refine J_iconst (pc := 110) (v := 0) dX11_stepHere_110 (by decide) ?_
                refine J_cvr (pc := 111) (N := mX11_isWord) dX11_stepHere_111 ml_X11_152 cf_X11_isWord cv_X11_isWord (r_X11_isWord (S := S) (a := b) (b := b) (h := h) (y := true) (w := [97, 103, 97, 105, 110]) hx hbn hbb (by decide) (by decide) (by decide +kernel) w6) rfl rfl (Nat.le_of_ble_eq_true rfl) (by decide) (rv_of (ci := 11) rfl rfl rfl) ?_
                skip
                refine J_if_eq (pc := 114) (tgt := 122) dX11_stepHere_114 (by decide) (fun c114 => absurd c114 (show ¬ bI true = 0 by decide)) (fun c114 => ?_)
                refine J_bipush (pc := 117) (v := 6) dX11_stepHere_117 (by decide) ?_
                refine J_goto (pc := 119) (tgt := 123) dX11_stepHere_119 (by decide) ?_
                exact J_iret (pc := 123) rfl rfl rfl dX11_stepHere_123 (rq hQ (by have e : wix cc n b wStp 0 = some 6 := (by show wix cc n b [[103, 105, 118, 101], [98, 97, 99, 107], [108, 97, 112, 115, 101], [99, 117, 114, 101], [100, 105, 101], [100, 97, 121], [97, 103, 97, 105, 110]] 0 = _; rw [wix_f w0, wix_f w1, wix_f w2, wix_f w3, wix_f w4, wix_f w5, wix_t w6]); rw [e]; rfl) rfl)
            · refine J_aload_n (pc := 85) dX11_stepHere_85 rfl ?_
              refine J_iconst (pc := 86) (v := 4) dX11_stepHere_86 (by decide) ?_
              refine J_iconst (pc := 87) (v := 1) dX11_stepHere_87 (by decide) ?_
              refine J_bipush (pc := 88) (v := 25) dX11_stepHere_88 (by decide) ?_
              refine J_iconst (pc := 90) (v := 0) dX11_stepHere_90 (by decide) ?_
              refine J_iconst (pc := 91) (v := 0) dX11_stepHere_91 (by decide) ?_
              refine J_iconst (pc := 92) (v := 0) dX11_stepHere_92 (by decide) ?_
              refine J_cvr (pc := 93) (N := mX11_isWord) dX11_stepHere_93 ml_X11_152 cf_X11_isWord cv_X11_isWord (r_X11_isWord (S := S) (a := b) (b := b) (h := h) (y := true) (w := [100, 97, 121]) hx hbn hbb (by decide) (by decide) (by decide +kernel) w5) rfl rfl (Nat.le_of_ble_eq_true rfl) (by decide) (rv_of (ci := 11) rfl rfl rfl) ?_
              skip
              refine J_if_eq (pc := 96) (tgt := 101) dX11_stepHere_96 (by decide) (fun c96 => absurd c96 (show ¬ bI true = 0 by decide)) (fun c96 => ?_)
              refine J_iconst (pc := 99) (v := 5) dX11_stepHere_99 (by decide) ?_
              exact J_iret (pc := 100) rfl rfl rfl dX11_stepHere_100 (rq hQ (by have e : wix cc n b wStp 0 = some 5 := (by show wix cc n b [[103, 105, 118, 101], [98, 97, 99, 107], [108, 97, 112, 115, 101], [99, 117, 114, 101], [100, 105, 101], [100, 97, 121], [97, 103, 97, 105, 110]] 0 = _; rw [wix_f w0, wix_f w1, wix_f w2, wix_f w3, wix_f w4, wix_t w5]); rw [e]; rfl) rfl)
          · refine J_aload_n (pc := 69) dX11_stepHere_69 rfl ?_
            refine J_iconst (pc := 70) (v := 4) dX11_stepHere_70 (by decide) ?_
            refine J_bipush (pc := 71) (v := 9) dX11_stepHere_71 (by decide) ?_
            refine J_iconst (pc := 73) (v := 5) dX11_stepHere_73 (by decide) ?_
            refine J_iconst (pc := 74) (v := 0) dX11_stepHere_74 (by decide) ?_
            refine J_iconst (pc := 75) (v := 0) dX11_stepHere_75 (by decide) ?_
            refine J_iconst (pc := 76) (v := 0) dX11_stepHere_76 (by decide) ?_
            refine J_cvr (pc := 77) (N := mX11_isWord) dX11_stepHere_77 ml_X11_152 cf_X11_isWord cv_X11_isWord (r_X11_isWord (S := S) (a := b) (b := b) (h := h) (y := true) (w := [100, 105, 101]) hx hbn hbb (by decide) (by decide) (by decide +kernel) w4) rfl rfl (Nat.le_of_ble_eq_true rfl) (by decide) (rv_of (ci := 11) rfl rfl rfl) ?_
            skip
            refine J_if_eq (pc := 80) (tgt := 85) dX11_stepHere_80 (by decide) (fun c80 => absurd c80 (show ¬ bI true = 0 by decide)) (fun c80 => ?_)
            refine J_iconst (pc := 83) (v := 4) dX11_stepHere_83 (by decide) ?_
            exact J_iret (pc := 84) rfl rfl rfl dX11_stepHere_84 (rq hQ (by have e : wix cc n b wStp 0 = some 4 := (by show wix cc n b [[103, 105, 118, 101], [98, 97, 99, 107], [108, 97, 112, 115, 101], [99, 117, 114, 101], [100, 105, 101], [100, 97, 121], [97, 103, 97, 105, 110]] 0 = _; rw [wix_f w0, wix_f w1, wix_f w2, wix_f w3, wix_t w4]); rw [e]; rfl) rfl)
        · refine J_aload_n (pc := 52) dX11_stepHere_52 rfl ?_
          refine J_iconst (pc := 53) (v := 3) dX11_stepHere_53 (by decide) ?_
          refine J_bipush (pc := 54) (v := 21) dX11_stepHere_54 (by decide) ?_
          refine J_bipush (pc := 56) (v := 18) dX11_stepHere_56 (by decide) ?_
          refine J_iconst (pc := 58) (v := 5) dX11_stepHere_58 (by decide) ?_
          refine J_iconst (pc := 59) (v := 0) dX11_stepHere_59 (by decide) ?_
          refine J_iconst (pc := 60) (v := 0) dX11_stepHere_60 (by decide) ?_
          refine J_cvr (pc := 61) (N := mX11_isWord) dX11_stepHere_61 ml_X11_152 cf_X11_isWord cv_X11_isWord (r_X11_isWord (S := S) (a := b) (b := b) (h := h) (y := true) (w := [99, 117, 114, 101]) hx hbn hbb (by decide) (by decide) (by decide +kernel) w3) rfl rfl (Nat.le_of_ble_eq_true rfl) (by decide) (rv_of (ci := 11) rfl rfl rfl) ?_
          skip
          refine J_if_eq (pc := 64) (tgt := 69) dX11_stepHere_64 (by decide) (fun c64 => absurd c64 (show ¬ bI true = 0 by decide)) (fun c64 => ?_)
          refine J_iconst (pc := 67) (v := 3) dX11_stepHere_67 (by decide) ?_
          exact J_iret (pc := 68) rfl rfl rfl dX11_stepHere_68 (rq hQ (by have e : wix cc n b wStp 0 = some 3 := (by show wix cc n b [[103, 105, 118, 101], [98, 97, 99, 107], [108, 97, 112, 115, 101], [99, 117, 114, 101], [100, 105, 101], [100, 97, 121], [97, 103, 97, 105, 110]] 0 = _; rw [wix_f w0, wix_f w1, wix_f w2, wix_t w3]); rw [e]; rfl) rfl)
      · refine J_aload_n (pc := 34) dX11_stepHere_34 rfl ?_
        refine J_bipush (pc := 35) (v := 12) dX11_stepHere_35 (by decide) ?_
        refine J_iconst (pc := 37) (v := 1) dX11_stepHere_37 (by decide) ?_
        refine J_bipush (pc := 38) (v := 16) dX11_stepHere_38 (by decide) ?_
        refine J_bipush (pc := 40) (v := 19) dX11_stepHere_40 (by decide) ?_
        refine J_iconst (pc := 42) (v := 5) dX11_stepHere_42 (by decide) ?_
        refine J_iconst (pc := 43) (v := 0) dX11_stepHere_43 (by decide) ?_
        refine J_cvr (pc := 44) (N := mX11_isWord) dX11_stepHere_44 ml_X11_152 cf_X11_isWord cv_X11_isWord (r_X11_isWord (S := S) (a := b) (b := b) (h := h) (y := true) (w := [108, 97, 112, 115, 101]) hx hbn hbb (by decide) (by decide) (by decide +kernel) w2) rfl rfl (Nat.le_of_ble_eq_true rfl) (by decide) (rv_of (ci := 11) rfl rfl rfl) ?_
        skip
        refine J_if_eq (pc := 47) (tgt := 52) dX11_stepHere_47 (by decide) (fun c47 => absurd c47 (show ¬ bI true = 0 by decide)) (fun c47 => ?_)
        refine J_iconst (pc := 50) (v := 2) dX11_stepHere_50 (by decide) ?_
        exact J_iret (pc := 51) rfl rfl rfl dX11_stepHere_51 (rq hQ (by have e : wix cc n b wStp 0 = some 2 := (by show wix cc n b [[103, 105, 118, 101], [98, 97, 99, 107], [108, 97, 112, 115, 101], [99, 117, 114, 101], [100, 105, 101], [100, 97, 121], [97, 103, 97, 105, 110]] 0 = _; rw [wix_f w0, wix_f w1, wix_t w2]); rw [e]; rfl) rfl)
    · refine J_aload_n (pc := 18) dX11_stepHere_18 rfl ?_
      refine J_iconst (pc := 19) (v := 2) dX11_stepHere_19 (by decide) ?_
      refine J_iconst (pc := 20) (v := 1) dX11_stepHere_20 (by decide) ?_
      refine J_iconst (pc := 21) (v := 3) dX11_stepHere_21 (by decide) ?_
      refine J_bipush (pc := 22) (v := 11) dX11_stepHere_22 (by decide) ?_
      refine J_iconst (pc := 24) (v := 0) dX11_stepHere_24 (by decide) ?_
      refine J_iconst (pc := 25) (v := 0) dX11_stepHere_25 (by decide) ?_
      refine J_cvr (pc := 26) (N := mX11_isWord) dX11_stepHere_26 ml_X11_152 cf_X11_isWord cv_X11_isWord (r_X11_isWord (S := S) (a := b) (b := b) (h := h) (y := true) (w := [98, 97, 99, 107]) hx hbn hbb (by decide) (by decide) (by decide +kernel) w1) rfl rfl (Nat.le_of_ble_eq_true rfl) (by decide) (rv_of (ci := 11) rfl rfl rfl) ?_
      skip
      refine J_if_eq (pc := 29) (tgt := 34) dX11_stepHere_29 (by decide) (fun c29 => absurd c29 (show ¬ bI true = 0 by decide)) (fun c29 => ?_)
      refine J_iconst (pc := 32) (v := 1) dX11_stepHere_32 (by decide) ?_
      exact J_iret (pc := 33) rfl rfl rfl dX11_stepHere_33 (rq hQ (by have e : wix cc n b wStp 0 = some 1 := (by show wix cc n b [[103, 105, 118, 101], [98, 97, 99, 107], [108, 97, 112, 115, 101], [99, 117, 114, 101], [100, 105, 101], [100, 97, 121], [97, 103, 97, 105, 110]] 0 = _; rw [wix_f w0, wix_t w1]); rw [e]; rfl) rfl)
  · refine J_aload_n (pc := 0) dX11_stepHere_0 rfl ?_
    refine J_bipush (pc := 1) (v := 7) dX11_stepHere_1 (by decide) ?_
    refine J_bipush (pc := 3) (v := 9) dX11_stepHere_3 (by decide) ?_
    refine J_bipush (pc := 5) (v := 22) dX11_stepHere_5 (by decide) ?_
    refine J_iconst (pc := 7) (v := 5) dX11_stepHere_7 (by decide) ?_
    refine J_iconst (pc := 8) (v := 0) dX11_stepHere_8 (by decide) ?_
    refine J_iconst (pc := 9) (v := 0) dX11_stepHere_9 (by decide) ?_
    refine J_cvr (pc := 10) (N := mX11_isWord) dX11_stepHere_10 ml_X11_152 cf_X11_isWord cv_X11_isWord (r_X11_isWord (S := S) (a := a) (b := b) (h := h) (y := true) (w := [103, 105, 118, 101]) hx ha hb (by decide) (by decide) (by decide +kernel) w0) rfl rfl (Nat.le_of_ble_eq_true rfl) (by decide) (rv_of (ci := 11) rfl rfl rfl) ?_
    skip
    refine J_if_eq (pc := 13) (tgt := 18) dX11_stepHere_13 (by decide) (fun c13 => absurd c13 (show ¬ bI true = 0 by decide)) (fun c13 => ?_)
    refine J_iconst (pc := 16) (v := 0) dX11_stepHere_16 (by decide) ?_
    exact J_iret (pc := 17) rfl rfl rfl dX11_stepHere_17 (rq hQ (by have e : wix cc n b wStp 0 = some 0 := (by show wix cc n b [[103, 105, 118, 101], [98, 97, 99, 107], [108, 97, 112, 115, 101], [99, 117, 114, 101], [100, 105, 101], [100, 97, 121], [97, 103, 97, 105, 110]] 0 = _; rw [wix_t w0]); rw [e]; rfl) rfl)
theorem r_X11_knownHere {g : Gp} {S : Sx} {a b h : Nat} {n : Nat} {cc : Nat → Nat} (hx : TX S n cc) (ha : a ≤ n) (hb : pbl cc n a = b) : RT g mX11_knownHere 5 [.ref 59] (ps S (a, 0, h)) (some (.int (ov (wix cc n b wLaw 0)))) (ps S ((if (wix cc n b wLaw 0).isSome = true then pwe cc n b else b), 0, h)) := by
  refine RT_ofQ ⟨rfl, rfl⟩ (Nat.le_of_ble_eq_true rfl) (fun sz Q hQ => ?_)
  have hn6 := hx.2.1
  have hbn : b ≤ n := by rw [← hb]; exact pbl_le cc ha
  have hbb : pbl cc n b = b := by rw [← hb]; exact pbl_pbl (hx.2.2.2 n (Nat.le_refl _)) ha
  cases w0 : wIs cc n b [119, 111, 114, 116, 104]
  · refine J_aload_n (pc := 0) dX11_knownHere_0 rfl ?_
    refine J_bipush (pc := 1) (v := 23) dX11_knownHere_1 (by decide) ?_
    refine J_bipush (pc := 3) (v := 15) dX11_knownHere_3 (by decide) ?_
    refine J_bipush (pc := 5) (v := 18) dX11_knownHere_5 (by decide) ?_
    refine J_bipush (pc := 7) (v := 20) dX11_knownHere_7 (by decide) ?_
    refine J_bipush (pc := 9) (v := 8) dX11_knownHere_9 (by decide) ?_
    refine J_iconst (pc := 11) (v := 0) dX11_knownHere_11 (by decide) ?_
    refine J_cvr (pc := 12) (N := mX11_takes) dX11_knownHere_12 ml_X11_230 cf_X11_takes cv_X11_takes (r_X11_takes (S := S) (a := a) (b := b) (h := h) (y := false) (w := [119, 111, 114, 116, 104]) hx ha hb (by decide) (by decide) (by decide +kernel) w0) rfl rfl (Nat.le_of_ble_eq_true rfl) (by decide) (rv_of (ci := 11) rfl rfl rfl) ?_
    refine J_cg2 (S' := ps S (b, 0, h)) (ps_same rfl) ?_
    refine J_if_eq (pc := 15) (tgt := 20) dX11_knownHere_15 (by decide) (fun c15 => ?_) (fun c15 => absurd (show bI false = 0 from rfl) c15)
    cases w1 : wIs cc n b [100, 97, 121, 115]
    · refine J_aload_n (pc := 20) dX11_knownHere_20 rfl ?_
      refine J_iconst (pc := 21) (v := 4) dX11_knownHere_21 (by decide) ?_
      refine J_iconst (pc := 22) (v := 1) dX11_knownHere_22 (by decide) ?_
      refine J_bipush (pc := 23) (v := 25) dX11_knownHere_23 (by decide) ?_
      refine J_bipush (pc := 25) (v := 19) dX11_knownHere_25 (by decide) ?_
      refine J_iconst (pc := 27) (v := 0) dX11_knownHere_27 (by decide) ?_
      refine J_iconst (pc := 28) (v := 0) dX11_knownHere_28 (by decide) ?_
      refine J_cvr (pc := 29) (N := mX11_takes) dX11_knownHere_29 ml_X11_230 cf_X11_takes cv_X11_takes (r_X11_takes (S := S) (a := b) (b := b) (h := h) (y := false) (w := [100, 97, 121, 115]) hx hbn hbb (by decide) (by decide) (by decide +kernel) w1) rfl rfl (Nat.le_of_ble_eq_true rfl) (by decide) (rv_of (ci := 11) rfl rfl rfl) ?_
      refine J_cg2 (S' := ps S (b, 0, h)) (ps_same rfl) ?_
      refine J_if_eq (pc := 32) (tgt := 37) dX11_knownHere_32 (by decide) (fun c32 => ?_) (fun c32 => absurd (show bI false = 0 from rfl) c32)
      cases w2 : wIs cc n b [108, 97, 112, 115, 101, 115]
      · refine J_aload_n (pc := 37) dX11_knownHere_37 rfl ?_
        refine J_bipush (pc := 38) (v := 12) dX11_knownHere_38 (by decide) ?_
        refine J_iconst (pc := 40) (v := 1) dX11_knownHere_40 (by decide) ?_
        refine J_bipush (pc := 41) (v := 16) dX11_knownHere_41 (by decide) ?_
        refine J_bipush (pc := 43) (v := 19) dX11_knownHere_43 (by decide) ?_
        refine J_iconst (pc := 45) (v := 5) dX11_knownHere_45 (by decide) ?_
        refine J_bipush (pc := 46) (v := 19) dX11_knownHere_46 (by decide) ?_
        refine J_cvr (pc := 48) (N := mX11_takes) dX11_knownHere_48 ml_X11_230 cf_X11_takes cv_X11_takes (r_X11_takes (S := S) (a := b) (b := b) (h := h) (y := false) (w := [108, 97, 112, 115, 101, 115]) hx hbn hbb (by decide) (by decide) (by decide +kernel) w2) rfl rfl (Nat.le_of_ble_eq_true rfl) (by decide) (rv_of (ci := 11) rfl rfl rfl) ?_
        refine J_cg2 (S' := ps S (b, 0, h)) (ps_same rfl) ?_
        refine J_if_eq (pc := 51) (tgt := 56) dX11_knownHere_51 (by decide) (fun c51 => ?_) (fun c51 => absurd (show bI false = 0 from rfl) c51)
        cases w3 : wIs cc n b [116, 101, 109, 112, 116, 101, 100]
        · refine J_aload_n (pc := 56) dX11_knownHere_56 rfl ?_
          refine J_cvr (pc := 57) (N := mX11_isTempted) dX11_knownHere_57 ml_X11_233 cf_X11_isTempted cv_X11_isTempted (r_X11_isTempted (S := S) (a := b) (b := b) (h := h) (y := false) hx hbn hbb w3) rfl rfl (Nat.le_of_ble_eq_true rfl) (by decide) (rv_of (ci := 11) rfl rfl rfl) ?_
          refine J_cg2 (S' := ps S (b, 0, h)) (ps_same rfl) ?_
          refine J_if_eq (pc := 60) (tgt := 65) dX11_knownHere_60 (by decide) (fun c60 => ?_) (fun c60 => absurd (show bI false = 0 from rfl) c60)
          cases w4 : wIs cc n b [105, 108, 108]
          · refine J_aload_n (pc := 65) dX11_knownHere_65 rfl ?_
            refine J_bipush (pc := 66) (v := 9) dX11_knownHere_66 (by decide) ?_
            refine J_bipush (pc := 68) (v := 12) dX11_knownHere_68 (by decide) ?_
            refine J_bipush (pc := 70) (v := 12) dX11_knownHere_70 (by decide) ?_
            refine J_iconst (pc := 72) (v := 0) dX11_knownHere_72 (by decide) ?_
            refine J_iconst (pc := 73) (v := 0) dX11_knownHere_73 (by decide) ?_
            refine J_iconst (pc := 74) (v := 0) dX11_knownHere_74 (by decide) ?_
            refine J_cvr (pc := 75) (N := mX11_takes) dX11_knownHere_75 ml_X11_230 cf_X11_takes cv_X11_takes (r_X11_takes (S := S) (a := b) (b := b) (h := h) (y := false) (w := [105, 108, 108]) hx hbn hbb (by decide) (by decide) (by decide +kernel) w4) rfl rfl (Nat.le_of_ble_eq_true rfl) (by decide) (rv_of (ci := 11) rfl rfl rfl) ?_
            refine J_cg2 (S' := ps S (b, 0, h)) (ps_same rfl) ?_
            refine J_if_eq (pc := 78) (tgt := 83) dX11_knownHere_78 (by decide) (fun c78 => ?_) (fun c78 => absurd (show bI false = 0 from rfl) c78)
            cases w5 : wIs cc n b [111, 116, 104, 101, 114, 115]
            · refine J_aload_n (pc := 83) dX11_knownHere_83 rfl ?_
              refine J_bipush (pc := 84) (v := 15) dX11_knownHere_84 (by decide) ?_
              refine J_bipush (pc := 86) (v := 20) dX11_knownHere_86 (by decide) ?_
              refine J_bipush (pc := 88) (v := 8) dX11_knownHere_88 (by decide) ?_
              refine J_iconst (pc := 90) (v := 5) dX11_knownHere_90 (by decide) ?_
              refine J_bipush (pc := 91) (v := 18) dX11_knownHere_91 (by decide) ?_
              refine J_bipush (pc := 93) (v := 19) dX11_knownHere_93 (by decide) ?_
              refine J_cvr (pc := 95) (N := mX11_takes) dX11_knownHere_95 ml_X11_230 cf_X11_takes cv_X11_takes (r_X11_takes (S := S) (a := b) (b := b) (h := h) (y := false) (w := [111, 116, 104, 101, 114, 115]) hx hbn hbb (by decide) (by decide) (by decide +kernel) w5) rfl rfl (Nat.le_of_ble_eq_true rfl) (by decide) (rv_of (ci := 11) rfl rfl rfl) ?_
              refine J_cg2 (S' := ps S (b, 0, h)) (ps_same rfl) ?_
              refine J_if_eq (pc := 98) (tgt := 103) dX11_knownHere_98 (by decide) (fun c98 => ?_) (fun c98 => absurd (show bI false = 0 from rfl) c98)
              cases w6 : wIs cc n b [115, 105, 115, 116, 101, 114]
              · refine J_aload_n (pc := 103) dX11_knownHere_103 rfl ?_
                refine J_bipush (pc := 104) (v := 19) dX11_knownHere_104 (by decide) ?_
                refine J_bipush (pc := 106) (v := 9) dX11_knownHere_106 (by decide) ?_
                refine J_bipush (pc := 108) (v := 19) dX11_knownHere_108 (by decide) ?_
                refine J_bipush (pc := 110) (v := 20) dX11_knownHere_110 (by decide) ?_
                refine J_iconst (pc := 112) (v := 5) dX11_knownHere_112 (by decide) ?_
                refine J_bipush (pc := 113) (v := 18) dX11_knownHere_113 (by decide) ?_
                refine J_cvr (pc := 115) (N := mX11_takes) dX11_knownHere_115 ml_X11_230 cf_X11_takes cv_X11_takes (r_X11_takes (S := S) (a := b) (b := b) (h := h) (y := false) (w := [115, 105, 115, 116, 101, 114]) hx hbn hbb (by decide) (by decide) (by decide +kernel) w6) rfl rfl (Nat.le_of_ble_eq_true rfl) (by decide) (rv_of (ci := 11) rfl rfl rfl) ?_
                refine J_cg2 (S' := ps S (b, 0, h)) (ps_same rfl) ?_
                refine J_if_eq (pc := 118) (tgt := 124) dX11_knownHere_118 (by decide) (fun c118 => ?_) (fun c118 => absurd (show bI false = 0 from rfl) c118)
                cases w7 : wIs cc n b [100, 97, 121]
                · refine J_aload_n (pc := 124) dX11_knownHere_124 rfl ?_
                  refine J_iconst (pc := 125) (v := 4) dX11_knownHere_125 (by decide) ?_
                  refine J_iconst (pc := 126) (v := 1) dX11_knownHere_126 (by decide) ?_
                  refine J_bipush (pc := 127) (v := 25) dX11_knownHere_127 (by decide) ?_
                  refine J_iconst (pc := 129) (v := 0) dX11_knownHere_129 (by decide) ?_
                  refine J_iconst (pc := 130) (v := 0) dX11_knownHere_130 (by decide) ?_
                  refine J_iconst (pc := 131) (v := 0) dX11_knownHere_131 (by decide) ?_
                  refine J_cvr (pc := 132) (N := mX11_takes) dX11_knownHere_132 ml_X11_230 cf_X11_takes cv_X11_takes (r_X11_takes (S := S) (a := b) (b := b) (h := h) (y := false) (w := [100, 97, 121]) hx hbn hbb (by decide) (by decide) (by decide +kernel) w7) rfl rfl (Nat.le_of_ble_eq_true rfl) (by decide) (rv_of (ci := 11) rfl rfl rfl) ?_
                  refine J_cg2 (S' := ps S (b, 0, h)) (ps_same rfl) ?_
                  refine J_if_eq (pc := 135) (tgt := 143) dX11_knownHere_135 (by decide) (fun c135 => ?_) (fun c135 => absurd (show bI false = 0 from rfl) c135)
                  refine J_iconst (pc := 143) (v := -1) dX11_knownHere_143 (by decide) ?_
                  exact J_iret (pc := 144) rfl rfl rfl dX11_knownHere_144 (rq hQ (by have e : wix cc n b wLaw 0 = none := (by show wix cc n b [[119, 111, 114, 116, 104], [100, 97, 121, 115], [108, 97, 112, 115, 101, 115], [116, 101, 109, 112, 116, 101, 100], [105, 108, 108], [111, 116, 104, 101, 114, 115], [115, 105, 115, 116, 101, 114], [100, 97, 121]] 0 = _; rw [wix_f w0, wix_f w1, wix_f w2, wix_f w3, wix_f w4, wix_f w5, wix_f w6, wix_f w7]; rfl); rw [e]; rfl) (by rw [show wix cc n b wLaw 0 = none from (by show wix cc n b [[119, 111, 114, 116, 104], [100, 97, 121, 115], [108, 97, 112, 115, 101, 115], [116, 101, 109, 112, 116, 101, 100], [105, 108, 108], [111, 116, 104, 101, 114, 115], [115, 105, 115, 116, 101, 114], [100, 97, 121]] 0 = _; rw [wix_f w0, wix_f w1, wix_f w2, wix_f w3, wix_f w4, wix_f w5, wix_f w6, wix_f w7]; rfl)]; rfl))
                · refine J_aload_n (pc := 124) dX11_knownHere_124 rfl ?_
                  refine J_iconst (pc := 125) (v := 4) dX11_knownHere_125 (by decide) ?_
                  refine J_iconst (pc := 126) (v := 1) dX11_knownHere_126 (by decide) ?_
                  refine J_bipush (pc := 127) (v := 25) dX11_knownHere_127 (by decide) ?_
                  refine J_iconst (pc := 129) (v := 0) dX11_knownHere_129 (by decide) ?_
                  refine J_iconst (pc := 130) (v := 0) dX11_knownHere_130 (by decide) ?_
                  refine J_iconst (pc := 131) (v := 0) dX11_knownHere_131 (by decide) ?_
                  refine J_cvr (pc := 132) (N := mX11_takes) dX11_knownHere_132 ml_X11_230 cf_X11_takes cv_X11_takes (r_X11_takes (S := S) (a := b) (b := b) (h := h) (y := true) (w := [100, 97, 121]) hx hbn hbb (by decide) (by decide) (by decide +kernel) w7) rfl rfl (Nat.le_of_ble_eq_true rfl) (by decide) (rv_of (ci := 11) rfl rfl rfl) ?_
                  refine J_cg2 (S' := ps S (pwe cc n b, 0, h)) (ps_same rfl) ?_
                  refine J_if_eq (pc := 135) (tgt := 143) dX11_knownHere_135 (by decide) (fun c135 => absurd c135 (show ¬ bI true = 0 by decide)) (fun c135 => ?_)
                  refine J_bipush (pc := 138) (v := 7) dX11_knownHere_138 (by decide) ?_
                  refine J_goto (pc := 140) (tgt := 144) dX11_knownHere_140 (by decide) ?_
                  exact J_iret (pc := 144) rfl rfl rfl dX11_knownHere_144 (rq hQ (by have e : wix cc n b wLaw 0 = some 7 := (by show wix cc n b [[119, 111, 114, 116, 104], [100, 97, 121, 115], [108, 97, 112, 115, 101, 115], [116, 101, 109, 112, 116, 101, 100], [105, 108, 108], [111, 116, 104, 101, 114, 115], [115, 105, 115, 116, 101, 114], [100, 97, 121]] 0 = _; rw [wix_f w0, wix_f w1, wix_f w2, wix_f w3, wix_f w4, wix_f w5, wix_f w6, wix_t w7]); rw [e]; rfl) (by rw [show wix cc n b wLaw 0 = some 7 from (by show wix cc n b [[119, 111, 114, 116, 104], [100, 97, 121, 115], [108, 97, 112, 115, 101, 115], [116, 101, 109, 112, 116, 101, 100], [105, 108, 108], [111, 116, 104, 101, 114, 115], [115, 105, 115, 116, 101, 114], [100, 97, 121]] 0 = _; rw [wix_f w0, wix_f w1, wix_f w2, wix_f w3, wix_f w4, wix_f w5, wix_f w6, wix_t w7])]; rfl))
              · refine J_aload_n (pc := 103) dX11_knownHere_103 rfl ?_
                refine J_bipush (pc := 104) (v := 19) dX11_knownHere_104 (by decide) ?_
                refine J_bipush (pc := 106) (v := 9) dX11_knownHere_106 (by decide) ?_
                refine J_bipush (pc := 108) (v := 19) dX11_knownHere_108 (by decide) ?_
                refine J_bipush (pc := 110) (v := 20) dX11_knownHere_110 (by decide) ?_
                refine J_iconst (pc := 112) (v := 5) dX11_knownHere_112 (by decide) ?_
                refine J_bipush (pc := 113) (v := 18) dX11_knownHere_113 (by decide) ?_
                refine J_cvr (pc := 115) (N := mX11_takes) dX11_knownHere_115 ml_X11_230 cf_X11_takes cv_X11_takes (r_X11_takes (S := S) (a := b) (b := b) (h := h) (y := true) (w := [115, 105, 115, 116, 101, 114]) hx hbn hbb (by decide) (by decide) (by decide +kernel) w6) rfl rfl (Nat.le_of_ble_eq_true rfl) (by decide) (rv_of (ci := 11) rfl rfl rfl) ?_
                refine J_cg2 (S' := ps S (pwe cc n b, 0, h)) (ps_same rfl) ?_
                refine J_if_eq (pc := 118) (tgt := 124) dX11_knownHere_118 (by decide) (fun c118 => absurd c118 (show ¬ bI true = 0 by decide)) (fun c118 => ?_)
                refine J_bipush (pc := 121) (v := 6) dX11_knownHere_121 (by decide) ?_
                exact J_iret (pc := 123) rfl rfl rfl dX11_knownHere_123 (rq hQ (by have e : wix cc n b wLaw 0 = some 6 := (by show wix cc n b [[119, 111, 114, 116, 104], [100, 97, 121, 115], [108, 97, 112, 115, 101, 115], [116, 101, 109, 112, 116, 101, 100], [105, 108, 108], [111, 116, 104, 101, 114, 115], [115, 105, 115, 116, 101, 114], [100, 97, 121]] 0 = _; rw [wix_f w0, wix_f w1, wix_f w2, wix_f w3, wix_f w4, wix_f w5, wix_t w6]); rw [e]; rfl) (by rw [show wix cc n b wLaw 0 = some 6 from (by show wix cc n b [[119, 111, 114, 116, 104], [100, 97, 121, 115], [108, 97, 112, 115, 101, 115], [116, 101, 109, 112, 116, 101, 100], [105, 108, 108], [111, 116, 104, 101, 114, 115], [115, 105, 115, 116, 101, 114], [100, 97, 121]] 0 = _; rw [wix_f w0, wix_f w1, wix_f w2, wix_f w3, wix_f w4, wix_f w5, wix_t w6])]; rfl))
            · refine J_aload_n (pc := 83) dX11_knownHere_83 rfl ?_
              refine J_bipush (pc := 84) (v := 15) dX11_knownHere_84 (by decide) ?_
              refine J_bipush (pc := 86) (v := 20) dX11_knownHere_86 (by decide) ?_
              refine J_bipush (pc := 88) (v := 8) dX11_knownHere_88 (by decide) ?_
              refine J_iconst (pc := 90) (v := 5) dX11_knownHere_90 (by decide) ?_
              refine J_bipush (pc := 91) (v := 18) dX11_knownHere_91 (by decide) ?_
              refine J_bipush (pc := 93) (v := 19) dX11_knownHere_93 (by decide) ?_
              refine J_cvr (pc := 95) (N := mX11_takes) dX11_knownHere_95 ml_X11_230 cf_X11_takes cv_X11_takes (r_X11_takes (S := S) (a := b) (b := b) (h := h) (y := true) (w := [111, 116, 104, 101, 114, 115]) hx hbn hbb (by decide) (by decide) (by decide +kernel) w5) rfl rfl (Nat.le_of_ble_eq_true rfl) (by decide) (rv_of (ci := 11) rfl rfl rfl) ?_
              refine J_cg2 (S' := ps S (pwe cc n b, 0, h)) (ps_same rfl) ?_
              refine J_if_eq (pc := 98) (tgt := 103) dX11_knownHere_98 (by decide) (fun c98 => absurd c98 (show ¬ bI true = 0 by decide)) (fun c98 => ?_)
              refine J_iconst (pc := 101) (v := 5) dX11_knownHere_101 (by decide) ?_
              exact J_iret (pc := 102) rfl rfl rfl dX11_knownHere_102 (rq hQ (by have e : wix cc n b wLaw 0 = some 5 := (by show wix cc n b [[119, 111, 114, 116, 104], [100, 97, 121, 115], [108, 97, 112, 115, 101, 115], [116, 101, 109, 112, 116, 101, 100], [105, 108, 108], [111, 116, 104, 101, 114, 115], [115, 105, 115, 116, 101, 114], [100, 97, 121]] 0 = _; rw [wix_f w0, wix_f w1, wix_f w2, wix_f w3, wix_f w4, wix_t w5]); rw [e]; rfl) (by rw [show wix cc n b wLaw 0 = some 5 from (by show wix cc n b [[119, 111, 114, 116, 104], [100, 97, 121, 115], [108, 97, 112, 115, 101, 115], [116, 101, 109, 112, 116, 101, 100], [105, 108, 108], [111, 116, 104, 101, 114, 115], [115, 105, 115, 116, 101, 114], [100, 97, 121]] 0 = _; rw [wix_f w0, wix_f w1, wix_f w2, wix_f w3, wix_f w4, wix_t w5])]; rfl))
          · refine J_aload_n (pc := 65) dX11_knownHere_65 rfl ?_
            refine J_bipush (pc := 66) (v := 9) dX11_knownHere_66 (by decide) ?_
            refine J_bipush (pc := 68) (v := 12) dX11_knownHere_68 (by decide) ?_
            refine J_bipush (pc := 70) (v := 12) dX11_knownHere_70 (by decide) ?_
            refine J_iconst (pc := 72) (v := 0) dX11_knownHere_72 (by decide) ?_
            refine J_iconst (pc := 73) (v := 0) dX11_knownHere_73 (by decide) ?_
            refine J_iconst (pc := 74) (v := 0) dX11_knownHere_74 (by decide) ?_
            refine J_cvr (pc := 75) (N := mX11_takes) dX11_knownHere_75 ml_X11_230 cf_X11_takes cv_X11_takes (r_X11_takes (S := S) (a := b) (b := b) (h := h) (y := true) (w := [105, 108, 108]) hx hbn hbb (by decide) (by decide) (by decide +kernel) w4) rfl rfl (Nat.le_of_ble_eq_true rfl) (by decide) (rv_of (ci := 11) rfl rfl rfl) ?_
            refine J_cg2 (S' := ps S (pwe cc n b, 0, h)) (ps_same rfl) ?_
            refine J_if_eq (pc := 78) (tgt := 83) dX11_knownHere_78 (by decide) (fun c78 => absurd c78 (show ¬ bI true = 0 by decide)) (fun c78 => ?_)
            refine J_iconst (pc := 81) (v := 4) dX11_knownHere_81 (by decide) ?_
            exact J_iret (pc := 82) rfl rfl rfl dX11_knownHere_82 (rq hQ (by have e : wix cc n b wLaw 0 = some 4 := (by show wix cc n b [[119, 111, 114, 116, 104], [100, 97, 121, 115], [108, 97, 112, 115, 101, 115], [116, 101, 109, 112, 116, 101, 100], [105, 108, 108], [111, 116, 104, 101, 114, 115], [115, 105, 115, 116, 101, 114], [100, 97, 121]] 0 = _; rw [wix_f w0, wix_f w1, wix_f w2, wix_f w3, wix_t w4]); rw [e]; rfl) (by rw [show wix cc n b wLaw 0 = some 4 from (by show wix cc n b [[119, 111, 114, 116, 104], [100, 97, 121, 115], [108, 97, 112, 115, 101, 115], [116, 101, 109, 112, 116, 101, 100], [105, 108, 108], [111, 116, 104, 101, 114, 115], [115, 105, 115, 116, 101, 114], [100, 97, 121]] 0 = _; rw [wix_f w0, wix_f w1, wix_f w2, wix_f w3, wix_t w4])]; rfl))
        · refine J_aload_n (pc := 56) dX11_knownHere_56 rfl ?_
          refine J_cvr (pc := 57) (N := mX11_isTempted) dX11_knownHere_57 ml_X11_233 cf_X11_isTempted cv_X11_isTempted (r_X11_isTempted (S := S) (a := b) (b := b) (h := h) (y := true) hx hbn hbb w3) rfl rfl (Nat.le_of_ble_eq_true rfl) (by decide) (rv_of (ci := 11) rfl rfl rfl) ?_
          refine J_cg2 (S' := ps S (pwe cc n b, 0, h)) (ps_same rfl) ?_
          refine J_if_eq (pc := 60) (tgt := 65) dX11_knownHere_60 (by decide) (fun c60 => absurd c60 (show ¬ bI true = 0 by decide)) (fun c60 => ?_)
          refine J_iconst (pc := 63) (v := 3) dX11_knownHere_63 (by decide) ?_
          exact J_iret (pc := 64) rfl rfl rfl dX11_knownHere_64 (rq hQ (by have e : wix cc n b wLaw 0 = some 3 := (by show wix cc n b [[119, 111, 114, 116, 104], [100, 97, 121, 115], [108, 97, 112, 115, 101, 115], [116, 101, 109, 112, 116, 101, 100], [105, 108, 108], [111, 116, 104, 101, 114, 115], [115, 105, 115, 116, 101, 114], [100, 97, 121]] 0 = _; rw [wix_f w0, wix_f w1, wix_f w2, wix_t w3]); rw [e]; rfl) (by rw [show wix cc n b wLaw 0 = some 3 from (by show wix cc n b [[119, 111, 114, 116, 104], [100, 97, 121, 115], [108, 97, 112, 115, 101, 115], [116, 101, 109, 112, 116, 101, 100], [105, 108, 108], [111, 116, 104, 101, 114, 115], [115, 105, 115, 116, 101, 114], [100, 97, 121]] 0 = _; rw [wix_f w0, wix_f w1, wix_f w2, wix_t w3])]; rfl))
      · refine J_aload_n (pc := 37) dX11_knownHere_37 rfl ?_
        refine J_bipush (pc := 38) (v := 12) dX11_knownHere_38 (by decide) ?_
        refine J_iconst (pc := 40) (v := 1) dX11_knownHere_40 (by decide) ?_
        refine J_bipush (pc := 41) (v := 16) dX11_knownHere_41 (by decide) ?_
        refine J_bipush (pc := 43) (v := 19) dX11_knownHere_43 (by decide) ?_
        refine J_iconst (pc := 45) (v := 5) dX11_knownHere_45 (by decide) ?_
        refine J_bipush (pc := 46) (v := 19) dX11_knownHere_46 (by decide) ?_
        refine J_cvr (pc := 48) (N := mX11_takes) dX11_knownHere_48 ml_X11_230 cf_X11_takes cv_X11_takes (r_X11_takes (S := S) (a := b) (b := b) (h := h) (y := true) (w := [108, 97, 112, 115, 101, 115]) hx hbn hbb (by decide) (by decide) (by decide +kernel) w2) rfl rfl (Nat.le_of_ble_eq_true rfl) (by decide) (rv_of (ci := 11) rfl rfl rfl) ?_
        refine J_cg2 (S' := ps S (pwe cc n b, 0, h)) (ps_same rfl) ?_
        refine J_if_eq (pc := 51) (tgt := 56) dX11_knownHere_51 (by decide) (fun c51 => absurd c51 (show ¬ bI true = 0 by decide)) (fun c51 => ?_)
        refine J_iconst (pc := 54) (v := 2) dX11_knownHere_54 (by decide) ?_
        exact J_iret (pc := 55) rfl rfl rfl dX11_knownHere_55 (rq hQ (by have e : wix cc n b wLaw 0 = some 2 := (by show wix cc n b [[119, 111, 114, 116, 104], [100, 97, 121, 115], [108, 97, 112, 115, 101, 115], [116, 101, 109, 112, 116, 101, 100], [105, 108, 108], [111, 116, 104, 101, 114, 115], [115, 105, 115, 116, 101, 114], [100, 97, 121]] 0 = _; rw [wix_f w0, wix_f w1, wix_t w2]); rw [e]; rfl) (by rw [show wix cc n b wLaw 0 = some 2 from (by show wix cc n b [[119, 111, 114, 116, 104], [100, 97, 121, 115], [108, 97, 112, 115, 101, 115], [116, 101, 109, 112, 116, 101, 100], [105, 108, 108], [111, 116, 104, 101, 114, 115], [115, 105, 115, 116, 101, 114], [100, 97, 121]] 0 = _; rw [wix_f w0, wix_f w1, wix_t w2])]; rfl))
    · refine J_aload_n (pc := 20) dX11_knownHere_20 rfl ?_
      refine J_iconst (pc := 21) (v := 4) dX11_knownHere_21 (by decide) ?_
      refine J_iconst (pc := 22) (v := 1) dX11_knownHere_22 (by decide) ?_
      refine J_bipush (pc := 23) (v := 25) dX11_knownHere_23 (by decide) ?_
      refine J_bipush (pc := 25) (v := 19) dX11_knownHere_25 (by decide) ?_
      refine J_iconst (pc := 27) (v := 0) dX11_knownHere_27 (by decide) ?_
      refine J_iconst (pc := 28) (v := 0) dX11_knownHere_28 (by decide) ?_
      refine J_cvr (pc := 29) (N := mX11_takes) dX11_knownHere_29 ml_X11_230 cf_X11_takes cv_X11_takes (r_X11_takes (S := S) (a := b) (b := b) (h := h) (y := true) (w := [100, 97, 121, 115]) hx hbn hbb (by decide) (by decide) (by decide +kernel) w1) rfl rfl (Nat.le_of_ble_eq_true rfl) (by decide) (rv_of (ci := 11) rfl rfl rfl) ?_
      refine J_cg2 (S' := ps S (pwe cc n b, 0, h)) (ps_same rfl) ?_
      refine J_if_eq (pc := 32) (tgt := 37) dX11_knownHere_32 (by decide) (fun c32 => absurd c32 (show ¬ bI true = 0 by decide)) (fun c32 => ?_)
      refine J_iconst (pc := 35) (v := 1) dX11_knownHere_35 (by decide) ?_
      exact J_iret (pc := 36) rfl rfl rfl dX11_knownHere_36 (rq hQ (by have e : wix cc n b wLaw 0 = some 1 := (by show wix cc n b [[119, 111, 114, 116, 104], [100, 97, 121, 115], [108, 97, 112, 115, 101, 115], [116, 101, 109, 112, 116, 101, 100], [105, 108, 108], [111, 116, 104, 101, 114, 115], [115, 105, 115, 116, 101, 114], [100, 97, 121]] 0 = _; rw [wix_f w0, wix_t w1]); rw [e]; rfl) (by rw [show wix cc n b wLaw 0 = some 1 from (by show wix cc n b [[119, 111, 114, 116, 104], [100, 97, 121, 115], [108, 97, 112, 115, 101, 115], [116, 101, 109, 112, 116, 101, 100], [105, 108, 108], [111, 116, 104, 101, 114, 115], [115, 105, 115, 116, 101, 114], [100, 97, 121]] 0 = _; rw [wix_f w0, wix_t w1])]; rfl))
  · refine J_aload_n (pc := 0) dX11_knownHere_0 rfl ?_
    refine J_bipush (pc := 1) (v := 23) dX11_knownHere_1 (by decide) ?_
    refine J_bipush (pc := 3) (v := 15) dX11_knownHere_3 (by decide) ?_
    refine J_bipush (pc := 5) (v := 18) dX11_knownHere_5 (by decide) ?_
    refine J_bipush (pc := 7) (v := 20) dX11_knownHere_7 (by decide) ?_
    refine J_bipush (pc := 9) (v := 8) dX11_knownHere_9 (by decide) ?_
    refine J_iconst (pc := 11) (v := 0) dX11_knownHere_11 (by decide) ?_
    refine J_cvr (pc := 12) (N := mX11_takes) dX11_knownHere_12 ml_X11_230 cf_X11_takes cv_X11_takes (r_X11_takes (S := S) (a := a) (b := b) (h := h) (y := true) (w := [119, 111, 114, 116, 104]) hx ha hb (by decide) (by decide) (by decide +kernel) w0) rfl rfl (Nat.le_of_ble_eq_true rfl) (by decide) (rv_of (ci := 11) rfl rfl rfl) ?_
    refine J_cg2 (S' := ps S (pwe cc n b, 0, h)) (ps_same rfl) ?_
    refine J_if_eq (pc := 15) (tgt := 20) dX11_knownHere_15 (by decide) (fun c15 => absurd c15 (show ¬ bI true = 0 by decide)) (fun c15 => ?_)
    refine J_iconst (pc := 18) (v := 0) dX11_knownHere_18 (by decide) ?_
    exact J_iret (pc := 19) rfl rfl rfl dX11_knownHere_19 (rq hQ (by have e : wix cc n b wLaw 0 = some 0 := (by show wix cc n b [[119, 111, 114, 116, 104], [100, 97, 121, 115], [108, 97, 112, 115, 101, 115], [116, 101, 109, 112, 116, 101, 100], [105, 108, 108], [111, 116, 104, 101, 114, 115], [115, 105, 115, 116, 101, 114], [100, 97, 121]] 0 = _; rw [wix_t w0]); rw [e]; rfl) (by rw [show wix cc n b wLaw 0 = some 0 from (by show wix cc n b [[119, 111, 114, 116, 104], [100, 97, 121, 115], [108, 97, 112, 115, 101, 115], [116, 101, 109, 112, 116, 101, 100], [105, 108, 108], [111, 116, 104, 101, 114, 115], [115, 105, 115, 116, 101, 114], [100, 97, 121]] 0 = _; rw [wix_t w0])]; rfl))
theorem r_X11_mostOf {g : Gp} {S : Sx} {k : Nat} (hk : k < 4) : RT g mX11_mostOf 0 [.int (nI k)] S (some (.int (if k = 1 then 10 else 8))) S := by
  refine RT_ofQ ⟨rfl, rfl⟩ (Nat.le_of_ble_eq_true rfl) (fun sz Q hQ => ?_)
  refine J_iload_n (pc := 0) dX11_mostOf_0 rfl ?_
  refine J_iconst (pc := 1) (v := 1) dX11_mostOf_1 (by decide) ?_
  refine J_icmp_ne (pc := 2) (tgt := 10) dX11_mostOf_2 (by decide) (fun c2 => ?_) (fun c2 => ?_)
  · refine J_bipush (pc := 10) (v := 8) dX11_mostOf_10 (by decide) ?_
    exact J_iret (pc := 12) rfl rfl rfl dX11_mostOf_12 (rq hQ (by rcases k with _ | _ | _ | _ | k <;> first | rfl | exact absurd rfl c2 | exact absurd c2 (by decide) | omega) rfl)
  · refine J_bipush (pc := 5) (v := 10) dX11_mostOf_5 (by decide) ?_
    refine J_goto (pc := 7) (tgt := 12) dX11_mostOf_7 (by decide) ?_
    exact J_iret (pc := 12) rfl rfl rfl dX11_mostOf_12 (rq hQ (by rcases k with _ | _ | _ | _ | k <;> first | rfl | exact absurd rfl c2 | exact absurd c2 (by decide) | omega) rfl)
theorem r_X11_opensOne_no {g : Gp} {S : Sx} {a h : Nat} (hk : sf S 59 8 = 6) : RT g mX11_opensOne 1 [.ref 59] (ps S (a, 0, h)) (some (.int 0)) (ps S (a, 3, a)) := by
  refine RT_ofQ ⟨rfl, rfl⟩ (Nat.le_of_ble_eq_true rfl) (fun sz Q hQ => ?_)
  refine J_aload_n (pc := 0) dX11_opensOne_0 rfl ?_
  refine J_geti (pc := 1) dX11_opensOne_1 kc11 fl_X11_119 rfl ?_
  refine J_if_ne (pc := 4) (tgt := 28) dX11_opensOne_4 (by decide) (fun c4 => absurd (show nI 0 = 0 from rfl) c4) (fun c4 => ?_)
  refine J_aload_n (pc := 7) dX11_opensOne_7 rfl ?_
  refine J_geti (pc := 8) dX11_opensOne_8 kc11 fl_X11_162 rfl ?_
  refine J_bipush (pc := 11) (v := 6) dX11_opensOne_11 (by decide) ?_
  refine J_icmp_ne (pc := 13) (tgt := 28) dX11_opensOne_13 (by decide) (fun c13 => absurd hk c13) (fun c13 => ?_)
  refine J_aload_n (pc := 16) dX11_opensOne_16 rfl ?_
  refine J_iconst (pc := 17) (v := 3) dX11_opensOne_17 (by decide) ?_
  refine J_aload_n (pc := 18) dX11_opensOne_18 rfl ?_
  refine J_geti (pc := 19) dX11_opensOne_19 kc11 fl_X11_112 rfl ?_
  refine J_cvv (pc := 22) (N := mX11_wrong) dX11_opensOne_22 ml_X11_132 cf_X11_wrong cv_X11_wrong (r_wr (S := S) (t := (a, 0, h)) (k := 3) (h := a) (show 0 ≤ 3 by decide) (by decide)) rfl rfl (Nat.le_of_ble_eq_true rfl) (by decide) (rv_of (ci := 11) rfl rfl rfl) ?_
  refine J_cg2 (S' := ps S (a, 3, a)) (ps_same rfl) ?_
  refine J_goto (pc := 25) (tgt := 45) dX11_opensOne_25 (by decide) ?_
  refine J_aload_n (pc := 45) dX11_opensOne_45 rfl ?_
  refine J_geti (pc := 46) dX11_opensOne_46 kc11 fl_X11_119 rfl ?_
  refine J_if_ne (pc := 49) (tgt := 56) dX11_opensOne_49 (by decide) (fun c49 => ?_) (fun c49 => absurd c49 (show ¬ nI 3 = 0 by decide))
  refine J_iconst (pc := 56) (v := 0) dX11_opensOne_56 (by decide) ?_
  exact J_iret (pc := 57) rfl rfl rfl dX11_opensOne_57 (rq hQ rfl rfl)
theorem r_X11_opensOne {g : Gp} {S : Sx} {a h k : Nat} (hk : sf S 59 8 = nI k) (hk6 : k < 6) : RT g mX11_opensOne 1 [.ref 59] (ps S (a, 0, h)) (some (.int 1)) (ps (sF S 59 8 (nI (k + 1))) (a, 0, h)) := by
  refine RT_ofQ ⟨rfl, rfl⟩ (Nat.le_of_ble_eq_true rfl) (fun sz Q hQ => ?_)
  refine J_aload_n (pc := 0) dX11_opensOne_0 rfl ?_
  refine J_geti (pc := 1) dX11_opensOne_1 kc11 fl_X11_119 rfl ?_
  refine J_if_ne (pc := 4) (tgt := 28) dX11_opensOne_4 (by decide) (fun c4 => absurd (show nI 0 = 0 from rfl) c4) (fun c4 => ?_)
  refine J_aload_n (pc := 7) dX11_opensOne_7 rfl ?_
  refine J_geti (pc := 8) dX11_opensOne_8 kc11 fl_X11_162 rfl ?_
  refine J_bipush (pc := 11) (v := 6) dX11_opensOne_11 (by decide) ?_
  refine J_icmp_ne (pc := 13) (tgt := 28) dX11_opensOne_13 (by decide) (fun c13 => ?_) (fun c13 => absurd c13 (show ¬ sf S 59 8 = 6 by rw [hk]; exact fun z => by have := (nI_eq (b := 6) (by omega) (by decide)).mp z; omega))
  refine J_aload_n (pc := 28) dX11_opensOne_28 rfl ?_
  refine J_geti (pc := 29) dX11_opensOne_29 kc11 fl_X11_119 rfl ?_
  refine J_if_ne (pc := 32) (tgt := 45) dX11_opensOne_32 (by decide) (fun c32 => absurd (show nI 0 = 0 from rfl) c32) (fun c32 => ?_)
  refine J_aload_n (pc := 35) dX11_opensOne_35 rfl ?_
  refine J_dup (pc := 36) dX11_opensOne_36 rfl ?_
  refine J_geti (pc := 37) dX11_opensOne_37 kc11 fl_X11_162 rfl ?_
  refine J_iconst (pc := 40) (v := 1) dX11_opensOne_40 (by decide) ?_
  refine J_iadd (pc := 41) dX11_opensOne_41 ?_
  refine J_t1 (y := nI (k + 1)) (by show sf S 59 8 + 1 = _; rw [hk, nI_1]) ?_
  refine J_puti (pc := 42) dX11_opensOne_42 kc11 fl_X11_162 rfl ⟨rfl, rfl⟩ ?_
  refine J_cg2 (ps_sF S (a, 0, h) (by decide) (by decide) (by decide)) ?_
  refine J_aload_n (pc := 45) dX11_opensOne_45 rfl ?_
  refine J_geti (pc := 46) dX11_opensOne_46 kc11 fl_X11_119 rfl ?_
  refine J_if_ne (pc := 49) (tgt := 56) dX11_opensOne_49 (by decide) (fun c49 => absurd (show nI 0 = 0 from rfl) c49) (fun c49 => ?_)
  refine J_iconst (pc := 52) (v := 1) dX11_opensOne_52 (by decide) ?_
  refine J_goto (pc := 53) (tgt := 57) dX11_opensOne_53 (by decide) ?_
  exact J_iret (pc := 57) rfl rfl rfl dX11_opensOne_57 (rq hQ rfl rfl)
def stS (S : Sx) (n : Nat) : Sx := sF (sF (sF (sF S 59 1 0) 59 2 (nI n)) 59 7 0) 59 8 0
theorem ps_sF4 (S : Sx) (a f : Nat) : sF (sF (sF S 59 4 (nI a)) 59 5 0) 59 6 (-1) = ps S (a, 0, f) := by
  have : sf (sF (sF (sF S 59 4 (nI a)) 59 5 0) 59 6 (-1)) = sf (ps S (a, 0, f)) := by
    funext x y
    show (if x = 59 then (if y = 6 then (-1 : Int32) else (if x = 59 then (if y = 5 then 0 else (if x = 59 then (if y = 4 then nI a else sf S x y) else sf S x y)) else _)) else _) = _
    by_cases hx : x = 59
    · subst hx
      by_cases h6 : y = 6
      · subst h6; rfl
      · by_cases h5 : y = 5
        · subst h5; rfl
        · by_cases h4 : y = 4
          · subst h4; rfl
          · simp [ps, sf, h4, h5, h6]
    · simp [ps, sf, sF, up2, hx]
  show (sf (sF (sF (sF S 59 4 (nI a)) 59 5 0) 59 6 (-1)), _, _, _, _) = _
  rw [this]
  rfl
theorem r_X11_starts {g : Gp} {S : Sx} {n : Nat} {cc : Nat → Nat} (hx : TX (stS S n) n cc) : RT g mX11_starts 2 [.ref 59, .int (nI n)] S none (ps (stS S n) (pbl cc n 0, 0, 0)) := by
  refine RT_ofQ ⟨rfl, rfl⟩ (Nat.le_of_ble_eq_true rfl) (fun sz Q hQ => ?_)
  refine J_aload_n (pc := 0) dX11_starts_0 rfl ?_
  refine J_iconst (pc := 1) (v := 0) dX11_starts_1 (by decide) ?_
  refine J_puti (pc := 2) dX11_starts_2 kc11 fl_X11_106 rfl ⟨rfl, rfl⟩ ?_
  refine J_aload_n (pc := 5) dX11_starts_5 rfl ?_
  refine J_iload_n (pc := 6) dX11_starts_6 rfl ?_
  refine J_puti (pc := 7) dX11_starts_7 kc11 fl_X11_109 rfl ⟨rfl, rfl⟩ ?_
  refine J_aload_n (pc := 10) dX11_starts_10 rfl ?_
  refine J_iconst (pc := 11) (v := 0) dX11_starts_11 (by decide) ?_
  refine J_puti (pc := 12) dX11_starts_12 kc11 fl_X11_112 rfl ⟨rfl, rfl⟩ ?_
  refine J_aload_n (pc := 15) dX11_starts_15 rfl ?_
  refine J_iconst (pc := 16) (v := 0) dX11_starts_16 (by decide) ?_
  refine J_puti (pc := 17) dX11_starts_17 kc11 fl_X11_119 rfl ⟨rfl, rfl⟩ ?_
  refine J_aload_n (pc := 20) dX11_starts_20 rfl ?_
  refine J_iconst (pc := 21) (v := -1) dX11_starts_21 (by decide) ?_
  refine J_puti (pc := 22) dX11_starts_22 kc11 fl_X11_122 rfl ⟨rfl, rfl⟩ ?_
  refine J_cg2 (ps_sF4 _ 0 0) ?_
  refine J_aload_n (pc := 25) dX11_starts_25 rfl ?_
  refine J_iconst (pc := 26) (v := 0) dX11_starts_26 (by decide) ?_
  refine J_puti (pc := 27) dX11_starts_27 kc11 fl_X11_159 rfl ⟨rfl, rfl⟩ ?_
  refine J_cg2 (ps_sF _ (0, 0, 0) (by decide) (by decide) (by decide)) ?_
  refine J_aload_n (pc := 30) dX11_starts_30 rfl ?_
  refine J_iconst (pc := 31) (v := 0) dX11_starts_31 (by decide) ?_
  refine J_puti (pc := 32) dX11_starts_32 kc11 fl_X11_162 rfl ⟨rfl, rfl⟩ ?_
  refine J_cg2 (S' := ps (stS S n) (0, 0, 0)) (ps_sF _ (0, 0, 0) (by decide) (by decide) (by decide)) ?_
  refine J_aload_n (pc := 35) dX11_starts_35 rfl ?_
  refine J_cvv (pc := 36) (N := mX11_blanks) dX11_starts_36 ml_X11_125 cf_X11_blanks cv_X11_blanks (r_X11_blanks (S := stS S n) (t := (0, 0, 0)) hx (Nat.zero_le _)) rfl rfl (Nat.le_of_ble_eq_true rfl) (by decide) (rv_of (ci := 11) rfl rfl rfl) ?_
  exact J_ret (pc := 39) rfl rfl dX11_starts_39 (rqv hQ rfl)
theorem r_X11_ends {g : Gp} {S : Sx} {a k p : Nat} (hk : k ≠ 0) : RT g mX11_ends 0 [.ref 59] (ps S (a, k, p)) (some (.int (nI k - 10))) (ps (sF S 59 3 (nI p)) (a, k, p)) := by
  refine RT_ofQ ⟨rfl, rfl⟩ (Nat.le_of_ble_eq_true rfl) (fun sz Q hQ => ?_)
  refine J_aload_n (pc := 0) dX11_ends_0 rfl ?_
  refine J_aload_n (pc := 1) dX11_ends_1 rfl ?_
  refine J_geti (pc := 2) dX11_ends_2 kc11 fl_X11_122 rfl ?_
  refine J_t1 (y := nI p) (show (if k = 0 then (-1 : Int32) else nI p) = nI p from if_neg hk) ?_
  refine J_puti (pc := 5) dX11_ends_5 kc11 fl_X11_9 rfl ⟨rfl, rfl⟩ ?_
  refine J_cg2 (ps_sF S (a, k, p) (by decide) (by decide) (by decide)) ?_
  refine J_aload_n (pc := 8) dX11_ends_8 rfl ?_
  refine J_geti (pc := 9) dX11_ends_9 kc11 fl_X11_119 rfl ?_
  refine J_bipush (pc := 12) (v := 10) dX11_ends_12 (by decide) ?_
  refine J_isub (pc := 14) dX11_ends_14 ?_
  exact J_iret (pc := 15) rfl rfl rfl dX11_ends_15 (rq hQ rfl rfl)

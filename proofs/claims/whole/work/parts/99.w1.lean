/-! ===== the start: what never changes ===== -/
set_option maxRecDepth 100000 in
theorem ib_0 : Cond.instantiable RX0 4 ∈ lw_tbl := List.mem_of_getElem? (i := 218) rfl
set_option maxRecDepth 100000 in
theorem ib_1 : Cond.instantiable RX1 11 ∈ lw_tbl := List.mem_of_getElem? (i := 220) rfl
set_option maxRecDepth 100000 in
theorem ib_2 : Cond.instantiable RX2 3 ∈ lw_tbl := List.mem_of_getElem? (i := 294) rfl
set_option maxRecDepth 100000 in
theorem ib_3 : Cond.instantiable RX3 4 ∈ lw_tbl := List.mem_of_getElem? (i := 398) rfl
set_option maxRecDepth 100000 in
theorem ib_4 : Cond.instantiable RX4 8 ∈ lw_tbl := List.mem_of_getElem? (i := 348) rfl
set_option maxRecDepth 100000 in
theorem ib_5 : Cond.instantiable RX5 4 ∈ lw_tbl := List.mem_of_getElem? (i := 442) rfl
set_option maxRecDepth 100000 in
theorem ib_6 : Cond.instantiable RX6 2 ∈ lw_tbl := List.mem_of_getElem? (i := 463) rfl
set_option maxRecDepth 100000 in
theorem ib_7 : Cond.instantiable RX7 3 ∈ lw_tbl := List.mem_of_getElem? (i := 382) rfl
set_option maxRecDepth 100000 in
theorem ib_8 : Cond.instantiable RX8 7 ∈ lw_tbl := List.mem_of_getElem? (i := 181) rfl
set_option maxRecDepth 100000 in
theorem ib_9 : Cond.instantiable RX9 4 ∈ lw_tbl := List.mem_of_getElem? (i := 418) rfl
set_option maxRecDepth 100000 in
theorem ib_10 : Cond.instantiable RX10 16 ∈ lw_tbl := List.mem_of_getElem? (i := 173) rfl
set_option maxRecDepth 100000 in
theorem ib_11 : Cond.instantiable RX11 49 ∈ lw_tbl := List.mem_of_getElem? (i := 1393) rfl
set_option maxRecDepth 100000 in
theorem sr_0 : ∀ q, strN[0]? = some q → Cond.stringRef q.1 q.2.1 q.2.2 ∈ lw_tbl := fun q h => by cases h; exact List.mem_of_getElem? (i := 768) rfl
set_option maxRecDepth 100000 in
theorem sr_1 : ∀ q, strN[1]? = some q → Cond.stringRef q.1 q.2.1 q.2.2 ∈ lw_tbl := fun q h => by cases h; exact List.mem_of_getElem? (i := 980) rfl
set_option maxRecDepth 100000 in
theorem sr_2 : ∀ q, strN[2]? = some q → Cond.stringRef q.1 q.2.1 q.2.2 ∈ lw_tbl := fun q h => by cases h; exact List.mem_of_getElem? (i := 979) rfl
set_option maxRecDepth 100000 in
theorem sr_3 : ∀ q, strN[3]? = some q → Cond.stringRef q.1 q.2.1 q.2.2 ∈ lw_tbl := fun q h => by cases h; exact List.mem_of_getElem? (i := 906) rfl
set_option maxRecDepth 100000 in
theorem sr_4 : ∀ q, strN[4]? = some q → Cond.stringRef q.1 q.2.1 q.2.2 ∈ lw_tbl := fun q h => by cases h; exact List.mem_of_getElem? (i := 972) rfl
set_option maxRecDepth 100000 in
theorem sr_5 : ∀ q, strN[5]? = some q → Cond.stringRef q.1 q.2.1 q.2.2 ∈ lw_tbl := fun q h => by cases h; exact List.mem_of_getElem? (i := 1002) rfl
set_option maxRecDepth 100000 in
theorem sr_6 : ∀ q, strN[6]? = some q → Cond.stringRef q.1 q.2.1 q.2.2 ∈ lw_tbl := fun q h => by cases h; exact List.mem_of_getElem? (i := 1114) rfl
set_option maxRecDepth 100000 in
theorem sr_7 : ∀ q, strN[7]? = some q → Cond.stringRef q.1 q.2.1 q.2.2 ∈ lw_tbl := fun q h => by cases h; exact List.mem_of_getElem? (i := 722) rfl
set_option maxRecDepth 100000 in
theorem ly_us : Cond.laysStatic Bundle.tN "UNASSIGNED_STACK" Bundle.steD ∈ lw_tbl := List.mem_of_getElem? (i := 709) rfl
set_option maxRecDepth 100000 in
theorem ii_us : Cond.initialized Bundle.tN ∈ lw_tbl := List.mem_of_getElem? (i := 160) rfl
set_option maxRecDepth 100000 in
theorem ly_ss : Cond.laysStatic Bundle.tN "SUPPRESSED_SENTINEL" Bundle.listD ∈ lw_tbl := List.mem_of_getElem? (i := 711) rfl
set_option maxRecDepth 100000 in
theorem ii_ss : Cond.initialized Bundle.tN ∈ lw_tbl := List.mem_of_getElem? (i := 160) rfl
set_option maxRecDepth 100000 in
theorem ly_cs : Cond.laysStatic "java/lang/String" "COMPACT_STRINGS" "Z" ∈ lw_tbl := List.mem_of_getElem? (i := 791) rfl
set_option maxRecDepth 100000 in
theorem ii_cs : Cond.initialized "java/lang/String" ∈ lw_tbl := List.mem_of_getElem? (i := 164) rfl
set_option maxRecDepth 100000 in
theorem ly_fm : Cond.laysStatic "jdk/internal/util/Preconditions" "SIOOBE_FORMATTER" "Ljava/util/function/BiFunction;" ∈ lw_tbl := List.mem_of_getElem? (i := 807) rfl
set_option maxRecDepth 100000 in
theorem ii_fm : Cond.initialized "jdk/internal/util/Preconditions" ∈ lw_tbl := List.mem_of_getElem? (i := 166) rfl
set_option maxRecDepth 100000 in
theorem ao_s : Cond.arrayOver (.object RX5) ∈ lw_tbl := List.mem_of_getElem? (i := 461) rfl
set_option maxRecDepth 100000 in
theorem ao_i : Cond.arrayOver (.array .int) ∈ lw_tbl := List.mem_of_getElem? (i := 1399) rfl
abbrev FLT : List Cond := flatC (Jvm.Cond.and given_1 narrow_1)
def tmS (i : Nat) : Term := .string (strN.getD i ("", 0, "")).1 (strN.getD i ("", 0, "")).2.1
theorem fl_ex : ∀ i, i < 8 → Cond.exactly (tmS i) "java/lang/String" ∈ FLT := by decide +kernel
theorem fl_co : ∀ i, i < 8 → Cond.eq (.field (tmS i) "java/lang/String" "coder" "B") (.int 0) ∈ FLT := by decide +kernel
theorem fl_ar : ∀ i, i < 8 → Cond.arrayOf (.field (tmS i) "java/lang/String" "value" "[B") .byte ∈ FLT := by decide +kernel
theorem fl_le : ∀ i, i < 8 → Cond.eq (.length (.field (tmS i) "java/lang/String" "value" "[B")) (.int (Int32.ofNat (strL.getD i 0))) ∈ FLT := by decide +kernel
theorem fl_e0 : ∀ j, j < 24 → FLT[([74, 75, 76, 77, 78, 79, 80, 81, 82, 83, 84, 85, 86, 87, 88, 89, 90, 91, 92, 93, 94, 95, 96, 97] : List Nat).getD j 0]? = some (Cond.eq (.elem (.field (tmS 0) "java/lang/String" "value" "[B") (.int (Int32.ofNat j))) (.int ((strB.getD 0 []).getD j 0))) := by decide +kernel
theorem fl_e1 : ∀ j, j < 2 → FLT[([186, 187] : List Nat).getD j 0]? = some (Cond.eq (.elem (.field (tmS 1) "java/lang/String" "value" "[B") (.int (Int32.ofNat j))) (.int ((strB.getD 1 []).getD j 0))) := by decide +kernel
theorem fl_e2 : ∀ j, j < 3 → FLT[([175, 176, 177] : List Nat).getD j 0]? = some (Cond.eq (.elem (.field (tmS 2) "java/lang/String" "value" "[B") (.int (Int32.ofNat j))) (.int ((strB.getD 2 []).getD j 0))) := by decide +kernel
theorem fl_e3 : ∀ j, j < 1 → FLT[([103] : List Nat).getD j 0]? = some (Cond.eq (.elem (.field (tmS 3) "java/lang/String" "value" "[B") (.int (Int32.ofNat j))) (.int ((strB.getD 3 []).getD j 0))) := by decide +kernel
theorem fl_e4 : ∀ j, j < 58 → FLT[([110, 111, 112, 113, 114, 115, 116, 117, 118, 119, 120, 121, 122, 123, 124, 125, 126, 127, 128, 129, 130, 131, 132, 133, 134, 135, 136, 137, 138, 139, 140, 141, 142, 143, 144, 145, 146, 147, 148, 149, 150, 151, 152, 153, 154, 155, 156, 157, 158, 159, 160, 161, 162, 163, 164, 165, 166, 167] : List Nat).getD j 0]? = some (Cond.eq (.elem (.field (tmS 4) "java/lang/String" "value" "[B") (.int (Int32.ofNat j))) (.int ((strB.getD 4 []).getD j 0))) := by decide +kernel
theorem fl_e5 : ∀ j, j < 34 → FLT[([197, 198, 199, 200, 201, 202, 203, 204, 205, 206, 207, 208, 209, 210, 211, 212, 213, 214, 215, 216, 217, 218, 219, 220, 221, 222, 223, 224, 225, 226, 227, 228, 229, 230] : List Nat).getD j 0]? = some (Cond.eq (.elem (.field (tmS 5) "java/lang/String" "value" "[B") (.int (Int32.ofNat j))) (.int ((strB.getD 5 []).getD j 0))) := by decide +kernel
theorem fl_e6 : ∀ j, j < 32 → FLT[([241, 242, 243, 244, 245, 246, 247, 248, 249, 250, 251, 252, 253, 254, 255, 256, 257, 258, 259, 260, 261, 262, 263, 264, 265, 266, 267, 268, 269, 270, 271, 272] : List Nat).getD j 0]? = some (Cond.eq (.elem (.field (tmS 6) "java/lang/String" "value" "[B") (.int (Int32.ofNat j))) (.int ((strB.getD 6 []).getD j 0))) := by decide +kernel
theorem fl_e7 : ∀ j, j < 29 → FLT[([41, 42, 43, 44, 45, 46, 47, 48, 49, 50, 51, 52, 53, 54, 55, 56, 57, 58, 59, 60, 61, 62, 63, 64, 65, 66, 67, 68, 69] : List Nat).getD j 0]? = some (Cond.eq (.elem (.field (tmS 7) "java/lang/String" "value" "[B") (.int (Int32.ofNat j))) (.int ((strB.getD 7 []).getD j 0))) := by decide +kernel
theorem fl_el (i : Nat) (hi : i < 8) (j : Nat) (hj : j < strL.getD i 0) : Cond.eq (.elem (.field (tmS i) "java/lang/String" "value" "[B") (.int (Int32.ofNat j))) (.int ((strB.getD i []).getD j 0)) ∈ FLT := by
  match i, hi, hj with
  | 0, _, hj => exact List.mem_of_getElem? (fl_e0 j hj)
  | 1, _, hj => exact List.mem_of_getElem? (fl_e1 j hj)
  | 2, _, hj => exact List.mem_of_getElem? (fl_e2 j hj)
  | 3, _, hj => exact List.mem_of_getElem? (fl_e3 j hj)
  | 4, _, hj => exact List.mem_of_getElem? (fl_e4 j hj)
  | 5, _, hj => exact List.mem_of_getElem? (fl_e5 j hj)
  | 6, _, hj => exact List.mem_of_getElem? (fl_e6 j hj)
  | 7, _, hj => exact List.mem_of_getElem? (fl_e7 j hj)
  | n + 8, hi, _ => omega
theorem fl_ne : ∀ i, i < 8 → ∀ j, j < 8 → i ≠ j → Cond.not (Cond.eq (tmS i) (tmS j)) ∈ FLT ∨ Cond.not (Cond.eq (tmS j) (tmS i)) ∈ FLT := by decide +kernel
theorem fl_n1 : Cond.not (.castable IA NS) ∈ FLT := by decide +kernel
theorem fl_n2 : Cond.not (.castable NS IA) ∈ FLT := by decide +kernel
theorem fl_us : Cond.isRef (.static Bundle.tN "UNASSIGNED_STACK" Bundle.steD) ∈ FLT := by decide +kernel
theorem fl_ss : Cond.isRef (.static Bundle.tN "SUPPRESSED_SENTINEL" Bundle.listD) ∈ FLT := by decide +kernel
theorem fl_cs : Cond.eq (.static "java/lang/String" "COMPACT_STRINGS" "Z") (.int 1) ∈ FLT := by decide +kernel
theorem fl_fm : Cond.isRef (.static "jdk/internal/util/Preconditions" "SIOOBE_FORMATTER" "Ljava/util/function/BiFunction;") ∈ FLT := by decide +kernel
theorem fl_sl : ∀ i, i < 8 → strL.getD i 0 < 2 ^ 31 := by decide +kernel
theorem cls_k {s : State} {args : Array Value} (hts : ∀ w ∈ lw_tbl, w.before args s = true) : ∃ D : va_G, ∀ (k : Nat) (q : vw_C), cls[k]? = some q → u_Kn s q.1 q.2.1 q.2.2 (D.1 k) (D.2 k) := by
  obtain ⟨c0, i0, h0⟩ := u_known (C := RX0) (T := TX0) (N := 4) (n := 4) hts (fun w hw => (ku0 w hw).1) (hts _ ib_0)
  obtain ⟨c1, i1, h1⟩ := u_known (C := RX1) (T := TX1) (N := 11) (n := 11) hts (fun w hw => (ku1 w hw).1) (hts _ ib_1)
  obtain ⟨c2, i2, h2⟩ := u_known (C := RX2) (T := TX2) (N := 3) (n := 3) hts (fun w hw => (ku2 w hw).1) (hts _ ib_2)
  obtain ⟨c3, i3, h3⟩ := u_known (C := RX3) (T := TX3) (N := 4) (n := 4) hts (fun w hw => (ku3 w hw).1) (hts _ ib_3)
  obtain ⟨c4, i4, h4⟩ := u_known (C := RX4) (T := TX4) (N := 8) (n := 8) hts (fun w hw => (ku4 w hw).1) (hts _ ib_4)
  obtain ⟨c5, i5, h5⟩ := u_known (C := RX5) (T := TX5) (N := 4) (n := 4) hts (fun w hw => (ku5 w hw).1) (hts _ ib_5)
  obtain ⟨c6, i6, h6⟩ := u_known (C := RX6) (T := TX6) (N := 2) (n := 2) hts (fun w hw => (ku6 w hw).1) (hts _ ib_6)
  obtain ⟨c7, i7, h7⟩ := u_known (C := RX7) (T := TX7) (N := 3) (n := 3) hts (fun w hw => (ku7 w hw).1) (hts _ ib_7)
  obtain ⟨c8, i8, h8⟩ := u_known (C := RX8) (T := TX8) (N := 7) (n := 7) hts (fun w hw => (ku8 w hw).1) (hts _ ib_8)
  obtain ⟨c9, i9, h9⟩ := u_known (C := RX9) (T := TX9) (N := 4) (n := 4) hts (fun w hw => (ku9 w hw).1) (hts _ ib_9)
  obtain ⟨c10, i10, h10⟩ := u_known (C := RX10) (T := TX10) (N := 16) (n := 16) hts (fun w hw => (ku10 w hw).1) (hts _ ib_10)
  obtain ⟨c11, i11, h11⟩ := u_known (C := RX11) (T := TX11) (N := 49) (n := 49) hts (fun w hw => (ku11 w hw).1) (hts _ ib_11)
  refine ⟨(fun k => if k = 0 then c0 else if k = 1 then c1 else if k = 2 then c2 else if k = 3 then c3 else if k = 4 then c4 else if k = 5 then c5 else if k = 6 then c6 else if k = 7 then c7 else if k = 8 then c8 else if k = 9 then c9 else if k = 10 then c10 else c11, fun k => if k = 0 then i0 else if k = 1 then i1 else if k = 2 then i2 else if k = 3 then i3 else if k = 4 then i4 else if k = 5 then i5 else if k = 6 then i6 else if k = 7 then i7 else if k = 8 then i8 else if k = 9 then i9 else if k = 10 then i10 else i11), fun k q hq => ?_⟩
  match k, hq with
  | 0, hq => cases hq; exact h0
  | 1, hq => cases hq; exact h1
  | 2, hq => cases hq; exact h2
  | 3, hq => cases hq; exact h3
  | 4, hq => cases hq; exact h4
  | 5, hq => cases hq; exact h5
  | 6, hq => cases hq; exact h6
  | 7, hq => cases hq; exact h7
  | 8, hq => cases hq; exact h8
  | 9, hq => cases hq; exact h9
  | 10, hq => cases hq; exact h10
  | 11, hq => cases hq; exact h11
  | k + 12, hq => simp [cls] at hq
theorem arr_k {s : State} {args : Array Value} (hts : ∀ w ∈ lw_tbl, w.before args s = true) : ∃ A : Nat → ClassId, ∀ (k : Nat) (q : ClassId × FieldType), ([(A 0, .int), (A 1, .byte), (A 2, .long), (A 3, .object RX5), (A 4, .array .int)] : List (ClassId × FieldType))[k]? = some q → ArrOfT s q.1 q.2 ∧ va_RA s q.1 q.2 := by
  obtain ⟨a0, k0, p0, f0, g0, e0⟩ := Cond.arrayClass_spec (hts _ ac_i.1)
  obtain ⟨a1, k1, p1, f1, g1, e1⟩ := Cond.arrayClass_spec (hts _ ac_b.1)
  obtain ⟨a2, k2, p2, f2, g2, e2⟩ := Cond.arrayClass_spec (hts _ ac_l.1)
  obtain ⟨p3, a3, k3, f3, -, g3, e3, h3⟩ := Cond.arrayOver_spec (hts _ ao_s)
  obtain ⟨p4, a4, k4, f4, -, g4, e4, h4⟩ := arrayOverA_spec (hts _ ao_i)
  refine ⟨fun k => if k = 0 then a0 else if k = 1 then a1 else if k = 2 then a2 else if k = 3 then a3 else a4, fun k q hq => ?_⟩
  match k, hq with
  | 0, hq => cases hq; exact ⟨fun n z => ⟨fun k h => (by cases h), k0, g0, p0, e0⟩, f0⟩
  | 1, hq => cases hq; exact ⟨fun n z => ⟨fun k h => (by cases h), k1, g1, p1, e1⟩, f1⟩
  | 2, hq => cases hq; exact ⟨fun n z => ⟨fun k h => (by cases h), k2, g2, p2, e2⟩, f2⟩
  | 3, hq => cases hq; exact ⟨fun n z => ⟨fun k h => (by cases h), k3, g3, p3, e3⟩, k3, p3, g3, e3, f3, h3⟩
  | 4, hq => cases hq; exact ⟨fun n z => ⟨fun k h => (by cases h), k4, g4, p4, e4⟩, h4⟩
  | k + 5, hq => simp at hq
theorem wd_k {s : State} {args : Array Value} (hts : ∀ w ∈ lw_tbl, w.before args s = true) : Wd s := by
  intro w hw hp
  rcases hp with hp | hp
  · exact good_any hp (State.WarmedH.refl s) (hts w hw)
  · have h1 := hts w hw
    cases w <;> first | exact va_Nw.of rfl h1 | exact absurd hp Bool.false_ne_true
theorem i32_nat (x : Int32) : Int32.ofNat x.toBitVec.toNat = x := by
  apply Int32.toBitVec_inj.mp
  simp
theorem sr_start {s : State} {b L : Nat} {xs : Nat → Int32} (hts : ∀ w ∈ lw_tbl, w.before #[Value.ref b] s = true) (hX : va_X b L xs s s.heap) (hbl : b < s.heap.size) (hgv : (Jvm.Cond.and given_1 narrow_1).before #[Value.ref b] s = true) (l : Launch) : ∃ g : Gp, gl g = l ∧ gB g = s.heap.size ∧ gV g 10 = b ∧ gV g 11 = L ∧ Sr g s s.heap := by
  have hfl := flat_of_before _ hgv
  have hA : ∀ a : Nat, a < s.heap.size → ¬ s.heap.size ≤ a := fun a h => Nat.not_le.mpr h
  obtain ⟨D, hD⟩ := cls_k hts
  obtain ⟨A, hAr⟩ := arr_k hts
  obtain ⟨adK, adV, hK, hE⟩ := vk_Sof (args := #[Value.ref b]) (s := s) (N := 8) (tm := tmS) (len := strL) (byt := strB) (A := fun q => s.heap.size ≤ q) fl_sl (fun i hi => hfl _ (fl_ex i hi)) (fun i hi => hfl _ (fl_co i hi)) (fun i hi => hfl _ (fl_ar i hi)) (fun i hi => hfl _ (fl_le i hi)) (fun i hi j hj => hfl _ (fl_el i hi j hj)) (fun i j hi hj hij => (fl_ne i hi j hj hij).imp (fun q => hfl _ q) (fun q => hfl _ q)) hA
  have hfm := va_Zqof (A := fun q => s.heap.size ≤ q) (hts _ ly_fm) (hts _ ii_fm) (hfl _ fl_fm) hA
  obtain ⟨fm, hfm⟩ : ∃ t : Nat, va_Z "jdk/internal/util/Preconditions" "SIOOBE_FORMATTER" "Ljava/util/function/BiFunction;" .null (fun q => s.heap.size ≤ q) s s.heap ∨ va_Z "jdk/internal/util/Preconditions" "SIOOBE_FORMATTER" "Ljava/util/function/BiFunction;" (.ref t) (fun q => s.heap.size ≤ q) s s.heap := by
    rcases hfm with h | ⟨t, h⟩
    · exact ⟨0, Or.inl h⟩
    · exact ⟨t, Or.inr h⟩
  refine ⟨(l, D, A, s.heap.size, adK, fun i => if i < 8 then adV i else if i = 9 then fm else if i = 10 then b else if i = 11 then L else (xs (i - 1000)).toBitVec.toNat), rfl, rfl, rfl, rfl, ⟨hD, hAr⟩, wd_k hts, ?_, ?_, ?_, ?_, ?_, ?_, ⟨hbl, ?_⟩, ?_, ?_, ?_, ?_⟩
  · refine ⟨fun i hi => ?_, hK.2⟩
    have := hK.1 i hi
    rw [show gV (l, D, A, s.heap.size, adK, fun i => if i < 8 then adV i else if i = 9 then fm else if i = 10 then b else if i = 11 then L else (xs (i - 1000)).toBitVec.toNat) i = adV i from if_pos hi]
    exact this
  · intro i q hq
    match i, hq with
    | 0, hq => exact vk_R.of (hts _ (sr_0 q hq)) (by cases hq; exact hE 0 (by decide))
    | 1, hq => exact vk_R.of (hts _ (sr_1 q hq)) (by cases hq; exact hE 1 (by decide))
    | 2, hq => exact vk_R.of (hts _ (sr_2 q hq)) (by cases hq; exact hE 2 (by decide))
    | 3, hq => exact vk_R.of (hts _ (sr_3 q hq)) (by cases hq; exact hE 3 (by decide))
    | 4, hq => exact vk_R.of (hts _ (sr_4 q hq)) (by cases hq; exact hE 4 (by decide))
    | 5, hq => exact vk_R.of (hts _ (sr_5 q hq)) (by cases hq; exact hE 5 (by decide))
    | 6, hq => exact vk_R.of (hts _ (sr_6 q hq)) (by cases hq; exact hE 6 (by decide))
    | 7, hq => exact vk_R.of (hts _ (sr_7 q hq)) (by cases hq; exact hE 7 (by decide))
    | i + 8, hq => simp [strN] at hq
  · exact vx_Zqof (hts _ ly_us) (hts _ ii_us) (hfl _ fl_us) hA
  · exact vx_Zqof (hts _ ly_ss) (hts _ ii_ss) (hfl _ fl_ss) hA
  · refine va_Zof (hts _ ly_cs) (hts _ ii_cs) ?_ hA
    exact va_eqi (hfl _ fl_cs)
  · exact hfm
  · obtain ⟨scr, h1, h2, h3, h4, h5⟩ := hX
    refine ⟨scr, h1, h2, h3, h4, fun j hj => ?_⟩
    rw [h5 j hj]
    show some (Value.int (xs j)) = some (Value.int (Int32.ofNat (if 1000 + j < 8 then adV (1000 + j) else if 1000 + j = 9 then fm else if 1000 + j = 10 then b else if 1000 + j = 11 then L else (xs (1000 + j - 1000)).toBitVec.toNat)))
    rw [if_neg (by omega), if_neg (by omega), if_neg (by omega), if_neg (by omega), Nat.add_sub_cancel_left, i32_nat]
  · exact va_Nc.of (hfl _ fl_n1)
  · exact va_Nc.of (hfl _ fl_n2)
  · exact hts _ ao_s
  · exact hts _ ao_i

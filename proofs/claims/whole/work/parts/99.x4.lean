/-! ===== who may have lapsed, told twice ===== -/
theorem fst1_c (p : Nat → Bool) : ∀ n, (∀ j, j < n → ¬ p j = true) ∨ ∃ k, k < n ∧ p k = true ∧ ∀ j, j < k → ¬ p j = true
  | 0 => Or.inl (fun j h => absurd h (Nat.not_lt_zero j))
  | n + 1 => by
    rcases fst1_c p n with h | ⟨k, h1, h2, h3⟩
    · by_cases c : p n = true
      · exact Or.inr ⟨n, by omega, c, h⟩
      · exact Or.inl (fun j hj => by
          by_cases e : j = n
          · subst e; exact c
          · exact h j (by omega))
    · exact Or.inr ⟨k, by omega, h2, h3⟩
theorem lpT_1 {p : Nat → Bool} {a0 : Int32} : ∀ n, (lpT p a0 n).1 = sm (fun k => bI (p k)) n
  | 0 => rfl
  | n + 1 => by
    show (if p n = true then ((lpT p a0 n).1 + 1, (if (lpT p a0 n).1 = 0 then ix n else (lpT p a0 n).2.1), (lpT p a0 n).2.2 &&& ix n) else lpT p a0 n).1 = _
    by_cases c : p n = true
    · rw [if_pos c, ← sm_1 (F := p) c, ← lpT_1 (a0 := a0) n]
    · rw [if_neg c, ← sm_f (F := p) c, ← lpT_1 (a0 := a0) n]
theorem lpT_2 {p : Nat → Bool} {a0 : Int32} : ∀ n, n ≤ 256 → ∃ c, c ≤ n ∧ (lpT p a0 n).1 = nI c ∧ (c = 0 ↔ fst1 p n = -1) ∧ (lpT p a0 n).2.1 = fst1 p n
  | 0, _ => ⟨0, Nat.le_refl _, rfl, ⟨fun _ => rfl, fun _ => rfl⟩, rfl⟩
  | n + 1, h => by
    obtain ⟨c, h1, h2, h3, h4⟩ := lpT_2 (p := p) (a0 := a0) n (by omega)
    have e : lpT p a0 (n + 1) = (if p n = true then ((lpT p a0 n).1 + 1, (if (lpT p a0 n).1 = 0 then ix n else (lpT p a0 n).2.1), (lpT p a0 n).2.2 &&& ix n) else lpT p a0 n) := rfl
    have e' : fst1 p (n + 1) = (if fst1 p n = -1 then (if p n = true then nI n else -1) else fst1 p n) := rfl
    have hn : ¬ nI n = -1 := nI_nm (by omega)
    rw [e, e']
    by_cases q : p n = true
    · rw [if_pos q, if_pos q]
      refine ⟨c + 1, by omega, by rw [h2, nI_1], ⟨fun z => absurd z (by omega), fun z => ?_⟩, ?_⟩
      · by_cases w : fst1 p n = -1
        · rw [if_pos w] at z; exact absurd z hn
        · rw [if_neg w] at z; exact absurd z w
      · show (if (lpT p a0 n).1 = 0 then ix n else (lpT p a0 n).2.1) = _
        rw [h2, h4, ix_nI]
        by_cases w : c = 0
        · rw [if_pos (h3.mp w), if_pos (by rw [w]; rfl)]
        · rw [if_neg (fun z => w (h3.mpr z)), if_neg (show ¬ nI c = 0 from fun z => w ((nI_eq (b := 0) (by omega) (by decide)).mp z))]
    · rw [if_neg q, if_neg q]
      refine ⟨c, by omega, h2, ?_, ?_⟩
      · by_cases w : fst1 p n = -1
        · rw [if_pos w]; exact ⟨fun _ => rfl, fun _ => h3.mpr w⟩
        · rw [if_neg w]; exact h3
      · by_cases w : fst1 p n = -1
        · rw [if_pos w, h4, w]
        · rw [if_neg w, h4]
theorem lpT_3 {p : Nat → Bool} {a0 : Int32} {k : Nat} (hk : k < 32) : ∀ n, bt (lpT p a0 n).2.2 k = (bt a0 k && allB (fun j => !p j || j.testBit k) n)
  | 0 => by show bt a0 k = (bt a0 k && true); rw [Bool.and_true]
  | n + 1 => by
    show bt (if p n = true then ((lpT p a0 n).1 + 1, (if (lpT p a0 n).1 = 0 then ix n else (lpT p a0 n).2.1), (lpT p a0 n).2.2 &&& ix n) else lpT p a0 n).2.2 k = _
    rw [allB_s]
    by_cases q : p n = true
    · rw [if_pos q]
      show bt ((lpT p a0 n).2.2 &&& ix n) k = _
      rw [bt_and, lpT_3 hk n, ix_nI, bt_nI k hk, q, Bool.and_assoc]
      rfl
    · rw [if_neg q, lpT_3 hk n, Bool.eq_false_iff.mpr q]
      show _ = (bt a0 k && (allB _ n && true))
      rw [Bool.and_true]
theorem psB_i {I O : Nat → Bool} {ns k : Nat} : psB I O ns k = true ↔ ∀ s, s < ns → (k.testBit s = true → I s = true) ∧ (k.testBit s = false → O s = true) := by
  unfold psB
  rw [allB_i]
  refine ⟨fun h s hs => ?_, fun h s hs => ?_⟩
  · have := h s hs
    cases c : k.testBit s
    · rw [c] at this; exact ⟨fun z => (by cases z), fun _ => this⟩
    · rw [c] at this; exact ⟨fun _ => this, fun z => (by cases z)⟩
  · have := h s hs
    cases c : k.testBit s
    · exact this.2 c
    · exact this.1 c
theorem sure_e {I O : Nat → Bool} {ns : Nat} (hn : ns ≤ 8) : (if (lpT (psB I O ns) ((1 : Int32) <<< (nI ns &&& 31) - 1) (2 ^ ns)).1 = 0 then 0 else (lpT (psB I O ns) ((1 : Int32) <<< (nI ns &&& 31) - 1) (2 ^ ns)).2.2) = (if fst1 (fun k => psB I O ns k) (2 ^ ns) = -1 then 0 else fst1 (fun k => psB I O ns k) (2 ^ ns)) := by
  have h256 := (p2_8 hn).2
  obtain ⟨c, h1, h2, h3, -⟩ := lpT_2 (p := psB I O ns) (a0 := (1 : Int32) <<< (nI ns &&& 31) - 1) (2 ^ ns) h256
  rcases fst1_c (psB I O ns) (2 ^ ns) with h | ⟨k0, k1, k2, k3⟩
  · have e := fst1_no h
    rw [if_pos e, h2, h3.mpr e]
    rfl
  · have e := fst1_at (p := psB I O ns) k2 (by omega) k3 k1
    have ne : ¬ fst1 (psB I O ns) (2 ^ ns) = -1 := by rw [e]; exact nI_nm (by omega)
    have hc : ¬ c = 0 := fun z => ne (h3.mp z)
    rw [if_neg ne, h2, if_neg (show ¬ nI c = 0 from fun z => hc ((nI_eq (b := 0) (by omega) (by decide)).mp z))]
    show _ = fst1 (psB I O ns) (2 ^ ns)
    rw [e]
    refine bt_ext (fun k hk => ?_)
    rw [lpT_3 hk, bt_full ns (by omega), bt_msk _ ns (by omega), bt_nI k hk, Bool.and_true]
    have sub : ∀ j, psB I O ns j = true → ∀ s, k0.testBit s = true → j.testBit s = true := by
      intro j hj s hs
      have hl : k0 &&& j = k0 := by
        have le : k0 &&& j ≤ k0 := Nat.and_le_left
        have hp : psB I O ns (k0 &&& j) = true := by
          rw [psB_i] at hj k2 ⊢
          intro t ht
          rw [Nat.testBit_and]
          refine ⟨fun z => (k2 t ht).1 (Bool.and_eq_true_iff.mp z).1, fun z => ?_⟩
          cases q : k0.testBit t
          · exact (k2 t ht).2 q
          · rw [q, Bool.true_and] at z
            exact (hj t ht).2 z
        by_cases q : k0 &&& j < k0
        · exact absurd hp (k3 _ q)
        · omega
      rw [← hl, Nat.testBit_and] at hs
      exact (Bool.and_eq_true_iff.mp hs).2
    rw [Bool.eq_iff_iff, Bool.and_eq_true_iff, decide_eq_true_iff, allB_i]
    refine ⟨fun ⟨_, z⟩ => ?_, fun z => ⟨?_, fun j hj => ?_⟩⟩
    · have := z k0 k1
      rw [k2] at this
      exact this
    · by_cases q : k < ns
      · exact q
      · have : k0 < 2 ^ k := Nat.lt_of_lt_of_le k1 (Nat.pow_le_pow_right (by decide) (by omega))
        rw [Nat.testBit_lt_two_pow this] at z
        cases z
    · cases q : psB I O ns j
      · rfl
      · show (false || j.testBit k) = true
        rw [Bool.false_or]
        exact sub j q k z
theorem ctT_1 {p q : Nat → Bool} : ∀ n, (ctT p q n).1 = sm (fun k => bI (p k && q k)) n
  | 0 => rfl
  | n + 1 => by
    show (if p n = true then (if q n = true then ((ctT p q n).1 + 1, (ctT p q n).2) else ((ctT p q n).1, (ctT p q n).2 + 1)) else ctT p q n).1 = _
    have ih := ctT_1 (p := p) (q := q) n
    cases c : p n <;> cases e : q n
    · exact ih.trans (sm_f (F := fun k => p k && q k) (by rw [c, e]; decide))
    · exact ih.trans (sm_f (F := fun k => p k && q k) (by rw [c, e]; decide))
    · exact ih.trans (sm_f (F := fun k => p k && q k) (by rw [c, e]; decide))
    · exact (congrArg (fun z => z + 1) ih).trans (sm_1 (F := fun k => p k && q k) (by rw [c, e]; decide))
theorem ctT_2 {p q : Nat → Bool} : ∀ n, (ctT p q n).2 = sm (fun k => bI (p k && !q k)) n
  | 0 => rfl
  | n + 1 => by
    show (if p n = true then (if q n = true then ((ctT p q n).1 + 1, (ctT p q n).2) else ((ctT p q n).1, (ctT p q n).2 + 1)) else ctT p q n).2 = _
    have ih := ctT_2 (p := p) (q := q) n
    cases c : p n <;> cases e : q n
    · exact ih.trans (sm_f (F := fun k => p k && !q k) (by rw [c, e]; decide))
    · exact ih.trans (sm_f (F := fun k => p k && !q k) (by rw [c, e]; decide))
    · exact (congrArg (fun z => z + 1) ih).trans (sm_1 (F := fun k => p k && !q k) (by rw [c, e]; decide))
    · exact ih.trans (sm_f (F := fun k => p k && !q k) (by rw [c, e]; decide))
theorem ctT_s {p q : Nat → Bool} : ∀ n, (ctT p q n).1 + (ctT p q n).2 = sm (fun k => bI (p k)) n
  | 0 => rfl
  | n + 1 => by
    have ih := ctT_s (p := p) (q := q) n
    have e0 : ctT p q (n + 1) = (if p n = true then (if q n = true then ((ctT p q n).1 + 1, (ctT p q n).2) else ((ctT p q n).1, (ctT p q n).2 + 1)) else ctT p q n) := rfl
    rw [e0]
    by_cases c : p n = true
    · rw [if_pos c, ← sm_1 (F := p) c, ← ih]
      by_cases e : q n = true
      · rw [if_pos e]
        show (ctT p q n).1 + 1 + (ctT p q n).2 = _
        rw [Int32.add_assoc, Int32.add_comm 1, ← Int32.add_assoc]
      · rw [if_neg e]
        show (ctT p q n).1 + ((ctT p q n).2 + 1) = _
        rw [← Int32.add_assoc]
    · rw [if_neg c, ← sm_f (F := p) c, ← ih]
theorem akT_cg {td td' : Nat → Bool} {ws ws' : Nat → Int32} : ∀ {n : Nat}, (∀ k, k < n → td k = td' k ∧ ws k = ws' k) → akT td ws n = akT td' ws' n
  | 0, _ => rfl
  | n + 1, h => by
    show (if td n = true then akT td ws n else if (akT td ws n).1 = -1 ∨ ws n < (akT td ws n).2 then (ix n, ws n) else akT td ws n) = (if td' n = true then akT td' ws' n else if (akT td' ws' n).1 = -1 ∨ ws' n < (akT td' ws' n).2 then (ix n, ws' n) else akT td' ws' n)
    rw [akT_cg (fun k hk => h k (by omega)), (h n (by omega)).1, (h n (by omega)).2]
theorem lpT_cg {p p' : Nat → Bool} {a0 : Int32} : ∀ {n : Nat}, (∀ k, k < n → p k = p' k) → lpT p a0 n = lpT p' a0 n
  | 0, _ => rfl
  | n + 1, h => by
    show (if p n = true then ((lpT p a0 n).1 + 1, (if (lpT p a0 n).1 = 0 then ix n else (lpT p a0 n).2.1), (lpT p a0 n).2.2 &&& ix n) else lpT p a0 n) = (if p' n = true then ((lpT p' a0 n).1 + 1, (if (lpT p' a0 n).1 = 0 then ix n else (lpT p' a0 n).2.1), (lpT p' a0 n).2.2 &&& ix n) else lpT p' a0 n)
    rw [lpT_cg (fun k hk => h k (by omega)), h n (by omega)]
theorem in_b {k s : Nat} (hs : s < 32) : decide (nI k &&& ((1 : Int32) <<< (nI s &&& 31)) = ((1 : Int32) <<< (nI s &&& 31))) = k.testBit s := by
  rw [Bool.eq_iff_iff, decide_eq_true_iff]
  refine ⟨fun h => ?_, fun h => bt_ext (fun j hj => ?_)⟩
  · have := congrArg (fun x => bt x s) h
    simp only [bt_and, bt_1 hs, bt_nI s hs, decide_true, Bool.and_true] at this
    exact this
  · rw [bt_and, bt_1 hs, bt_nI j hj]
    by_cases e : s = j
    · subst e; rw [h]; rfl
    · rw [decide_eq_false e, Bool.and_false]
theorem out_b {k s : Nat} (hs : s < 32) : decide (nI k &&& ((1 : Int32) <<< (nI s &&& 31)) = 0) = !k.testBit s := by
  rw [Bool.eq_iff_iff, decide_eq_true_iff]
  refine ⟨fun h => ?_, fun h => bt_ext (fun j hj => ?_)⟩
  · have := congrArg (fun x => bt x s) h
    simp only [bt_and, bt_1 hs, bt_nI s hs, decide_true, Bool.and_true, bt_0] at this
    rw [this]; rfl
  · rw [bt_and, bt_1 hs, bt_nI j hj, bt_0]
    by_cases e : s = j
    · subst e
      cases q : k.testBit s
      · rfl
      · rw [q] at h; cases h
    · rw [decide_eq_false e, Bool.and_false]
theorem and_00 {k : Nat} : decide (nI k &&& 0 = 0) = true := decide_eq_true (bt_ext (fun j _ => by rw [bt_and, bt_0, Bool.and_false]))
section LPE
variable {Y : Sx} {d : HD} {m : Nat} {wv : Nat → Nat × Nat} {q : Nat} {l : List (Nat × Nat)}
theorem nd_inj : ∀ {l : List (Nat × Nat)}, (l.map Prod.fst).Nodup → ∀ {y z : Nat × Nat}, y ∈ l → z ∈ l → y.1 = z.1 → y = z
  | [], _, _, _, h, _, _ => by cases h
  | x :: l, hn, y, z, hy, hz, e => by
    rw [List.map_cons, List.nodup_cons] at hn
    rcases List.mem_cons.mp hy with h1 | h1
    · rcases List.mem_cons.mp hz with h2 | h2
      · rw [h1, h2]
      · subst h1
        exact absurd (List.mem_map.mpr ⟨z, h2, e.symm⟩) hn.1
    · rcases List.mem_cons.mp hz with h2 | h2
      · subst h2
        exact absurd (List.mem_map.mpr ⟨y, h1, e⟩) hn.1
      · exact nd_inj hn.2 h1 h2 e
theorem lnV_m {nr : Nat} (h : SV nr l) {z : Nat × Nat} (hz : z ∈ l) : lnV l z.1 = nI z.2 := by
  unfold lnV
  cases e : l.find? (fun q => q.1 == z.1) with
  | none => exact absurd (List.find?_eq_none.mp e z hz) (by simp)
  | some y =>
    have h1 := List.mem_of_find?_eq_some e
    have h2 : y.1 = z.1 := by have := List.find?_some e; simpa using this
    have := nd_inj h.1 h1 hz h2
    rw [this]
theorem mpi_f (hG : HG Y d) (hv : HV d) {r : Nat} (hr : r < dNr d) : mpi Y (dNr d) (dOw d) m wv r false = pwN d m wv (sa Y 535) r := by
  unfold mpi pwN
  rw [mpo_A hG hv hr]
  have e1 : sa Y 535 (16 + r) / (1 + bI false) = sa Y 535 (16 + r) := Int32.div_one
  have e2 : sa Y 535 (8 + dOw d r) + bI false = sa Y 535 (8 + dOw d r) := Int32.add_zero _
  rw [e1, e2]
theorem mpi_t (hG : HG Y d) (hv : HV d) {r : Nat} (hr : r < dNr d) : mpi Y (dNr d) (dOw d) m wv r true = plX d m wv (sa Y 535) r := by
  unfold mpi plX pwX
  rw [mpo_A hG hv hr, Int32.add_zero, Int32.add_zero]
  rfl
theorem okL_i {P : Nat → Int32} {s i : Nat} : okL d l P s i = true ↔ ∀ r, r < i → lnV l r ≠ -1 → dOw d r = s → P r = lnV l r := by
  unfold okL
  rw [allB_i]
  refine ⟨fun h r hr h1 h2 => ?_, fun h r hr => ?_⟩
  · have := h r hr
    rw [decide_eq_true h1, decide_eq_true h2, Bool.true_and, Bool.true_and] at this
    by_cases c : P r = lnV l r
    · exact c
    · rw [decide_eq_true c] at this; cases this
  · by_cases h1 : lnV l r ≠ -1
    · by_cases h2 : dOw d r = s
      · rw [decide_eq_false (show ¬ (P r ≠ lnV l r) from fun z => z (h r hr h1 h2)), Bool.and_false, Bool.and_false]; rfl
      · rw [decide_eq_false h2, Bool.false_and, Bool.and_false]; rfl
    · rw [decide_eq_false h1, Bool.false_and]; rfl
theorem getD_m {k : Nat} (hk : k < l.length) : l.getD k (0, 0) ∈ l := by
  have e : l.getD k (0, 0) = l[k] := by simp [List.getD, hk]
  rw [e]
  exact List.getElem_mem hk
theorem m_getD {z : Nat × Nat} (hz : z ∈ l) : ∃ k, k < l.length ∧ l.getD k (0, 0) = z := by
  obtain ⟨k, hk, e⟩ := List.mem_iff_getElem.mp hz
  exact ⟨k, hk, (by simp [List.getD, hk] : l.getD k (0, 0) = l[k]).trans e⟩
theorem il_e (hG : HG Y d) (hv : HV d) (hL : IL Y q d l) {k : Nat} : ilB Y (dNs d) (dNr d) (dOw d) m wv l.length (fun i => (l.getD i (0, 0)).1) (ix k) = psB (wIn d m wv (sa Y 535) l (dNr d)) (wOut d m wv (sa Y 535) l (dNr d)) (dNs d) k := by
  have n1 : dNs d ≤ 8 := hv.1
  obtain ⟨-, -, hSL, hSV⟩ := hL
  rw [Bool.eq_iff_iff]
  unfold ilB
  rw [Bool.and_eq_true_iff, allB_i, allB_i, psB_i]
  have bs : ∀ s, s < 32 → bit (ix k) (nI s) = k.testBit s := fun s hs => by rw [bit_bt _ hs, ix_nI, bt_nI s hs]
  have c1 : ∀ s, s < dNs d → (ilp1 Y (dNr d) (ix k) s = true ↔ (k.testBit s = true → (sa Y 535 (0 + s) = 0 ∧ kM d (sa Y 535) s ≠ 0))) := by
    intro s hs
    unfold ilp1 canL
    rw [mko_A hG hv (by omega), ix_nI s, bs s (by omega)]
    cases k.testBit s
    · exact ⟨fun _ z => (by cases z), fun _ => rfl⟩
    · show (false || decide _) = true ↔ _
      rw [Bool.false_or, decide_eq_true_iff]
      exact ⟨fun z _ => z, fun z => z rfl⟩
  have c2 : ∀ i, i < l.length → (ilp2 Y (dNr d) (dOw d) m wv (fun i => (l.getD i (0, 0)).1) (ix k) i = true ↔ (if k.testBit (dOw d (l.getD i (0, 0)).1) = true then plX d m wv (sa Y 535) (l.getD i (0, 0)).1 else pwN d m wv (sa Y 535) (l.getD i (0, 0)).1) = lnV l (l.getD i (0, 0)).1) := by
    intro i hi
    have hm := getD_m hi
    have hr := (hSV.2 _ hm).1
    have ho : dOw d (l.getD i (0, 0)).1 < dNs d := (hv.2.2.2.2.2.1 _ hr).1
    show decide (mpi Y (dNr d) (dOw d) m wv (l.getD i (0, 0)).1 (bit (ix k) (nI (dOw d (l.getD i (0, 0)).1))) = sa Y (431 + i) 1) = true ↔ _
    rw [decide_eq_true_iff, (hSL i hi).2, lnV_m hSV hm, bs _ (by omega)]
    cases k.testBit (dOw d (l.getD i (0, 0)).1)
    · rw [mpi_f hG hv hr]; exact Iff.rfl
    · rw [mpi_t hG hv hr]; exact Iff.rfl
  have ne : ∀ r, lnV l r ≠ -1 → ∃ i, i < l.length ∧ (l.getD i (0, 0)).1 = r := by
    intro r hr
    have := (not_congr (lnV_n (r := r) hSV)).mp hr
    obtain ⟨z, hz, e⟩ := List.any_eq_true.mp (Classical.not_not.mp this)
    obtain ⟨i, hi, e2⟩ := m_getD hz
    exact ⟨i, hi, by rw [e2]; simpa using e⟩
  refine ⟨fun ⟨a1, a2⟩ s hs => ⟨fun hb => ?_, fun hb => ?_⟩, fun h => ⟨fun s hs => (c1 s hs).mpr (fun hb => ?_), fun i hi => (c2 i hi).mpr ?_⟩⟩
  · unfold wIn
    rw [Bool.and_eq_true_iff, decide_eq_true_iff, okL_i]
    refine ⟨(c1 s hs).mp (a1 s hs) hb, fun r hr h1 h2 => ?_⟩
    obtain ⟨i, hi, rfl⟩ := ne r h1
    have := (c2 i hi).mp (a2 i hi)
    rw [h2, if_pos hb] at this
    exact this
  · unfold wOut
    rw [okL_i]
    intro r hr h1 h2
    obtain ⟨i, hi, rfl⟩ := ne r h1
    have := (c2 i hi).mp (a2 i hi)
    rw [h2, if_neg (by rw [hb]; decide)] at this
    exact this
  · have := (h s hs).1 hb
    unfold wIn at this
    exact of_decide_eq_true (Bool.and_eq_true_iff.mp this).1
  · have hm := getD_m hi
    have hr := (hSV.2 _ hm).1
    have hz := (hSV.2 _ hm).2
    have ho : dOw d (l.getD i (0, 0)).1 < dNs d := (hv.2.2.2.2.2.1 _ hr).1
    have h1 : lnV l (l.getD i (0, 0)).1 ≠ -1 := by rw [lnV_m hSV hm]; exact nI_nm (by omega)
    by_cases hb : k.testBit (dOw d (l.getD i (0, 0)).1) = true
    · rw [if_pos hb]
      have := (h _ ho).1 hb
      unfold wIn at this
      exact okL_i.mp (Bool.and_eq_true_iff.mp this).2 _ hr h1 rfl
    · rw [if_neg hb]
      have := (h _ ho).2 (Bool.eq_false_iff.mpr hb)
      unfold wOut at this
      exact okL_i.mp this _ hr h1 rfl
theorem LN_IL (hv : HV d) (hL : IL Y q d l) : LN Y (dNr d) l.length (fun i => (l.getD i (0, 0)).1) := by
  obtain ⟨h1, h2, h3, h4⟩ := hL
  have hl : l.length ≤ 10 := by
    have h10 : dNr d ≤ 10 := hv.2.1
    have := nd_len (dNr d) (l.map Prod.fst) h4.1 (fun x hx => by obtain ⟨z, hz, rfl⟩ := List.mem_map.mp hx; exact (h4.2 z hz).1)
    rw [List.length_map] at this
    omega
  exact ⟨h2, hl, fun k hk => ⟨(h3 k hk).1, (h4.2 _ (getD_m hk)).1⟩⟩
theorem sm_and {p : Nat → Bool} {n : Nat} : sm (fun k => bI (p k && (decide (nI k &&& 0 = 0) && decide (nI k &&& 0 = 0)))) n = sm (fun k => bI (p k)) n := sm_cg (fun i _ => by rw [and_00, Bool.and_true, Bool.and_true])
theorem max_c (x y : Int32) : (if x < y then y else x) = (if y < x then x else y) := by
  by_cases h : x < y
  · rw [if_pos h, if_neg (fun z => Int32.lt_asymm h z)]
  · rw [if_neg h]
    by_cases h2 : y < x
    · rw [if_pos h2]
    · rw [if_neg h2]
      exact Int32.le_antisymm (Int32.not_lt.mp h2) (Int32.not_lt.mp h)
theorem ctT_cg {p p' q q' : Nat → Bool} : ∀ {n : Nat}, (∀ k, k < n → p k = p' k ∧ q k = q' k) → ctT p q n = ctT p' q' n
  | 0, _ => rfl
  | n + 1, h => by
    show (if p n = true then (if q n = true then ((ctT p q n).1 + 1, (ctT p q n).2) else ((ctT p q n).1, (ctT p q n).2 + 1)) else ctT p q n) = (if p' n = true then (if q' n = true then ((ctT p' q' n).1 + 1, (ctT p' q' n).2) else ((ctT p' q' n).1, (ctT p' q' n).2 + 1)) else ctT p' q' n)
    rw [ctT_cg (fun k hk => h k (by omega)), (h n (by omega)).1, (h n (by omega)).2]
theorem aw_e (hG : HG Y d) (hv : HV d) (hL : IL Y q d l) {r : Nat} (hr : r < dNr d) : askW Y (dNs d) (dNr d) (dOw d) m wv l.length (fun i => (l.getD i (0, 0)).1) r = lwC d m wv (sa Y 535) l r := by
  have n1 : dNs d ≤ 8 := hv.1
  have ho : dOw d r < dNs d := (hv.2.2.2.2.2.1 _ hr).1
  unfold askW lwC
  have e : ctT (fun i => ilB Y (dNs d) (dNr d) (dOw d) m wv l.length (fun i => (l.getD i (0, 0)).1) (ix i)) (fun i => bit (ix i) (nI (dOw d r))) (2 ^ dNs d) = ctT (psB (wIn d m wv (sa Y 535) l (dNr d)) (wOut d m wv (sa Y 535) l (dNr d)) (dNs d)) (fun i => i.testBit (dOw d r)) (2 ^ dNs d) := ctT_cg (fun k hk => ⟨il_e hG hv hL, by show bit (ix k) (nI (dOw d r)) = k.testBit (dOw d r); rw [bit_bt _ (by omega), ix_nI, bt_nI _ (by omega)]⟩)
  have e1 : sm (fun k => bI (psB (wIn d m wv (sa Y 535) l (dNr d)) (wOut d m wv (sa Y 535) l (dNr d)) (dNs d) k && (decide (nI k &&& ((1 : Int32) <<< (nI (dOw d r) &&& 31)) = ((1 : Int32) <<< (nI (dOw d r) &&& 31))) && decide (nI k &&& 0 = 0)))) (2 ^ dNs d) = sm (fun k => bI (psB (wIn d m wv (sa Y 535) l (dNr d)) (wOut d m wv (sa Y 535) l (dNr d)) (dNs d) k && k.testBit (dOw d r))) (2 ^ dNs d) := sm_cg (fun i _ => by rw [and_00, in_b (by omega), Bool.and_true])
  have e2 : sm (fun k => bI (psB (wIn d m wv (sa Y 535) l (dNr d)) (wOut d m wv (sa Y 535) l (dNr d)) (dNs d) k && (decide (nI k &&& 0 = 0) && decide (nI k &&& ((1 : Int32) <<< (nI (dOw d r) &&& 31)) = 0)))) (2 ^ dNs d) = sm (fun k => bI (psB (wIn d m wv (sa Y 535) l (dNr d)) (wOut d m wv (sa Y 535) l (dNr d)) (dNs d) k && !k.testBit (dOw d r))) (2 ^ dNs d) := sm_cg (fun i _ => by rw [and_00, out_b (by omega), Bool.true_and])
  rw [e, mpi_t hG hv hr, mpi_f hG hv hr, e1, e2, sm_and, ctT_s, ctT_1, ctT_2, max_c]
  by_cases c : plX d m wv (sa Y 535) r = pwN d m wv (sa Y 535) r
  · rw [if_pos c, if_pos c.symm]
  · rw [if_neg c, if_neg (show ¬ pwN d m wv (sa Y 535) r = plX d m wv (sa Y 535) r from fun z => c z.symm)]
theorem ad_e (hL : IL Y q d l) (hv : HV d) {r : Nat} (hr : r < dNr d) : askD Y l.length r = decide (lnV l r ≠ -1) := by
  obtain ⟨-, -, hSL, hSV⟩ := hL
  have n2 : dNr d ≤ 10 := hv.2.1
  unfold askD
  refine decide_eq_decide.mpr ?_
  rw [Bool.eq_false_iff, Ne, allB_i]
  refine ⟨fun h z => h (fun k hk => decide_eq_true ?_), fun h z => h ((lnV_n hSV).mpr (fun w => ?_))⟩
  · rw [(hSL k hk).1]
    intro e
    have hm := getD_m hk
    have := (hSV.2 _ hm).1
    have e' := (nI_eq (by omega) (by omega)).mp e
    exact (lnV_n hSV).mp z (List.any_eq_true.mpr ⟨_, hm, by rw [e']; exact beq_self_eq_true r⟩)
  · obtain ⟨y, hy, e⟩ := List.any_eq_true.mp w
    obtain ⟨i, hi, e2⟩ := m_getD hy
    have e' : y.1 = r := by simpa using e
    have := of_decide_eq_true (z i hi)
    rw [(hSL i hi).1, e2, e'] at this
    exact this rfl
end LPE
theorem st_lapsed {g : Gp} {S : Sx} (hl : (gl g).stackTraces = false) (hI : INV S) (x : Int32) : SW g INV mL_lapsed hL_lapsed mX11_lapsed wI [.int x] S := by
  obtain ⟨p, hB⟩ := hI
  have n1 : dNs (pd p) ≤ 8 := (bhv hB).1
  by_cases hv : 0 ≤ x ∧ x ≤ 2
  · refine sw_q (d2 := 8) hB (by decide) (wg_lapsed (by decide) (qE (r_X10_lapsed hB.1 hB.2.1.2.2.2.2.2.2.2.2.2.1 hB.2.1.2.2.2.2.2.2.1 hB.2.2.2.1.1 hv))) (fun Y hY hBY => ?_)
    have h := mW (r_X11_lapsed (g := g) (S := Y) (bH hBY) (bW hBY) (bM hBY) (LN_IL (bhv hBY) hBY.2.2.2.1) hv)
    have e := lpT_cg (a0 := (1 : Int32) <<< (nI (dNs (pd p)) &&& 31) - 1) (n := 2 ^ dNs (pd p)) (fun k _ => il_e (m := pm p) (wv := pw p) (bG hBY) (bhv hBY) hBY.2.2.2.1 (k := k))
    rw [e, sure_e n1, lpT_1, (lpT_2 (2 ^ dNs (pd p)) (p2_8 n1).2).choose_spec.2.2.2, eqI_535 hY] at h
    rw [sm_and]
    exact h
  · exact sw_e hB (k := 1) (by decide) (by decide) (we_lapsed_IA (by decide) (e_X10_lapsed hl hv)) (r_X11_lapsed_er hv) (by decide)
theorem st_ask {g : Gp} {S : Sx} (hl : (gl g).stackTraces = false) (hI : INV S) (x : Int32) : SW g INV mL_ask hL_ask mX11_ask wI [.int x] S := by
  obtain ⟨p, hB⟩ := hI
  by_cases hv : 0 ≤ x ∧ x ≤ 1
  · refine sw_q (d2 := 8) hB (by decide) (wg_ask (by decide) (qE (r_X10_ask hB.1 hB.2.1.2.2.2.2.2.2.2.2.2.1 hB.2.1.2.2.2.2.2.2.1 hB.2.2.2.1.1 hv))) (fun Y hY hBY => ?_)
    have h := mW (r_X11_ask (g := g) (S := Y) (bH hBY) (bW hBY) (bM hBY) (LN_IL (bhv hBY) hBY.2.2.2.1) hv)
    rw [akT_cg (fun r hr => ⟨ad_e hBY.2.2.2.1 (bhv hBY) hr, aw_e (bG hBY) (bhv hBY) hBY.2.2.2.1 hr⟩), eqI_535 hY] at h
    exact h
  · exact sw_e hB (k := 1) (by decide) (by decide) (we_ask_IA (by decide) (e_X10_ask hl hv)) (r_X11_ask_er hv) (by decide)

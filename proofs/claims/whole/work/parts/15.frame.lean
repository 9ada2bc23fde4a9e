def bI (b : Bool) : Int32 := if b then 1 else 0
theorem bI_t {P : Prop} [Decidable P] (h : P) : bI (decide P) = 1 := by simp [bI, h]
theorem bI_f {P : Prop} [Decidable P] (h : ¬ P) : bI (decide P) = 0 := by simp [bI, h]
theorem ri {x y : Int32} (h : x = y) : (Sum.inl (some (Value.int x)) : Oc) = .inl (some (.int y)) := by rw [h]
theorem rj {x y : Int64} (h : x = y) : (Sum.inl (some (Value.long x)) : Oc) = .inl (some (.long y)) := by rw [h]
theorem bI_01 (b : Bool) : narrow .boolean (.int (bI b)) = .int (bI b) := by cases b <;> rfl
/-! ===== loops, joins, scratch ===== -/
theorem dn_ind {n : Nat} {P : Nat → Prop} (hx : P n) (hb : ∀ i, i < n → P (i + 1) → P i) : ∀ i, i ≤ n → P i := by
  intro i hi
  obtain ⟨k, hk⟩ : ∃ k, n = i + k := ⟨n - i, by omega⟩
  induction k generalizing i with
  | zero => rw [show i = n by omega]; exact hx
  | succ k ih => exact hb i (by omega) (ih (i + 1) (by omega) (by omega))
/-- a loop that may be left early, or whose state isn't known ahead -/
theorem dn_indS {σ : Type} {n : Nat} {P : Nat → σ → Prop} {I : Nat → σ → Prop} (hx : ∀ s, I n s → P n s) (hb : ∀ i s, i < n → I i s → (∀ s', I (i + 1) s' → P (i + 1) s') → P i s) : ∀ i s, i ≤ n → I i s → P i s := by
  intro i s hi hs
  obtain ⟨k, hk⟩ : ∃ k, n = i + k := ⟨n - i, by omega⟩
  induction k generalizing i s with
  | zero =>
    have : i = n := by omega
    subst this
    exact hx s hs
  | succ k ih => exact hb i s (by omega) hs (fun s' hs' => ih (i + 1) s' (by omega) hs' (by omega))
def ix : Nat → Int32
  | 0 => 0
  | n + 1 => ix n + 1
theorem ix_nI : ∀ n, ix n = nI n
  | 0 => rfl
  | n + 1 => by show ix n + 1 = nI (n + 1); rw [ix_nI n, nI_1]
theorem bI_0 {b : Bool} : bI b = 0 ↔ b = false := by cases b <;> decide
theorem bI_1 {b : Bool} : ¬ bI b = 0 ↔ b = true := by cases b <;> decide
theorem ix_lt {i n : Nat} {x : Int32} (hx : x = nI n) (h : i < n) (hn : n < 2 ^ 31) : ¬ x ≤ ix i := by rw [hx, ix_nI]; exact nI_ge h hn
theorem ix_ge {n : Nat} {x : Int32} (hx : x = nI n) : x ≤ ix n := by rw [hx, ix_nI]; exact Int32.le_refl _
section JF
variable {g : Gp} {M : Mt} {d : Nat} {tb : List ExceptionTableEntry} {pc E : Nat} {ls ls' : List (Option Value)} {st st' : List Value} {h : AH} {S S' : Sx} {sz kc ks : Nat} {Q : Po} {X : Int32}
/-- a value that two or more ways lay on the stack -/
theorem J_mid (E : Nat) (X : Int32) (hj : J g M d tb E ls (.int X :: st) h sz kc ks Q) (k : (∀ y, y = X → J g M d tb E ls (.int y :: st) h sz kc ks Q) → J g M d tb pc ls st h sz kc ks Q) : J g M d tb pc ls st h sz kc ks Q := k (fun y hy => by rw [hy]; exact hj)
theorem J_cg (h1 : ls = ls') (h2 : S = S') (k : J g M d tb pc ls' st (hs S') sz kc ks Q) : J g M d tb pc ls st (hs S) sz kc ks Q := by rw [h1, h2]; exact k
theorem J_cg1 (h1 : ls = ls') (k : J g M d tb pc ls' st h sz kc ks Q) : J g M d tb pc ls st h sz kc ks Q := by rw [h1]; exact k
theorem J_cg2 (h2 : S = S') (k : J g M d tb pc ls st (hs S') sz kc ks Q) : J g M d tb pc ls st (hs S) sz kc ks Q := by rw [h2]; exact k
theorem J_st (h1 : st = st') (k : J g M d tb pc ls st' h sz kc ks Q) : J g M d tb pc ls st h sz kc ks Q := by rw [h1]; exact k
theorem J_t1 {x y : Int32} (h1 : x = y) (k : J g M d tb pc ls (.int y :: st) h sz kc ks Q) : J g M d tb pc ls (.int x :: st) h sz kc ks Q := by rw [h1]; exact k
end JF
/-- the laws' stacks and the inputs hold nothing from one call to the next -/
def w1 (S T : Sx) : Sx := (sf S, sp S, sa S, sl S, sx T)
theorem w1_self (S : Sx) : w1 S S = S := rfl
theorem w1_w1 (S T T' : Sx) : w1 (w1 S T) T' = w1 S T' := rfl
theorem w1_sX {S T : Sx} {a k : Nat} {v : Int32} : sX (w1 S T) a k v = w1 S (sX T a k v) := rfl
theorem w1_sA {S T : Sx} {a k : Nat} {v : Int32} : sA (w1 S T) a k v = w1 (sA S a k v) T := rfl
theorem w1_sF {S T : Sx} {a k : Nat} {v : Int32} : sF (w1 S T) a k v = w1 (sF S a k v) T := rfl
theorem w1_sP {S T : Sx} {a k v : Nat} : sP (w1 S T) a k v = w1 (sP S a k v) T := rfl
/-- a contract that answers v, whatever the scratch holds, and leaves scratch alone changed -/
def RW (g : Gp) (N : Mt) (d : Nat) (as : List Value) (S : Sx) (v : Option Value) (S' : Sx) : Prop := ∀ T sz, NT g N d 0 0 as (hs (w1 S T)) sz (fun o h sz' => o = .inl v ∧ (∃ T', h = hs (w1 S' T')) ∧ sz' = sz)
section JW
variable {g : Gp} {M N : Mt} {d d' n idx a pc : Nat} {tb : List ExceptionTableEntry} {ls : List (Option Value)} {st as rest : List Value} {S S' T : Sx} {sz kc ks : Nat} {Q : Po} {host : String} {v : Option Value} {w : Value}
theorem RW_of_J (hy : plainName N.1.cls = true ∧ isLaw N = false) (hn : (lsl as).length ≤ N.2.2.1) (k : ∀ T sz, J g N d [] 0 (lsl as) [] (hs (w1 S T)) sz 0 0 (fun o h sz' => o = .inl v ∧ (∃ T', h = hs (w1 S' T')) ∧ sz' = sz)) : RW g N d as S v S' := fun T sz => NT_of_CT (fun E h sz q => by cases q.1) (CT_of_J hy hn (k T sz))
theorem RW_of_RT (h : ∀ T, ∃ T', RT g N d as (w1 S T) v (w1 S' T')) : RW g N d as S v S' := by
  intro T sz
  obtain ⟨T', hT⟩ := h T
  intro p e ha hc hk s m args below hf happ hP hK
  obtain ⟨n, o, h1, h2, h3, ⟨⟨⟨v0, h', sz', e1, ⟨e2, e3, e4⟩, hH⟩, hF⟩, h5⟩⟩ := hT sz p e ha hc hk s m args below hf happ hP hK
  exact ⟨n, o, h1, h2, h3, ⟨⟨v0, h', sz', e1, ⟨e2, ⟨T', e3⟩, e4⟩, hH⟩, hF⟩, h5⟩
theorem J_csw (hd : decode M.2.1 pc = .ok (.invokestatic idx, 3)) (hm : InT (.methodLink M.1.cls idx N.1)) (hc : CF N n) (hv : InT (.static N.1)) (hT : RW g N d' as S (some w) S') (hst : st = as.reverse ++ rest) (hn : as.length = n) (hcat : (rest.map fun v => v.category).sum ≤ 8) (hdd : d' + 1 ≤ d) (kr : ∀ T, J g M d tb (pc + 3) ls (w :: rest) (hs (w1 S' T)) sz kc ks Q) : J g M d tb pc ls st (hs (w1 S T)) sz kc ks Q := by
  refine J_cs hd hm hc hv (hT T sz) hst hn hcat hdd (Nat.zero_le _) (Nat.zero_le _) (fun v h' sz' hq => ?_)
  obtain ⟨h1, ⟨T', rfl⟩, rfl⟩ := hq
  cases h1
  exact kr T'
theorem J_cvw (hd : decode M.2.1 pc = .ok (.invokevirtual idx, 3)) (hm : InT (.methodLink M.1.cls idx N.1)) (hc : CF N n) (hv : CFv N) (hT : RW g N d' (.ref a :: as) S (some w) S') (hst : st = as.reverse ++ .ref a :: rest) (hn : as.length = n) (hcat : (rest.map fun v => v.category).sum ≤ 8) (hdd : d' + 1 ≤ d) (hrv : Rv (hs (w1 S T)) a N.1.cls) (kr : ∀ T, J g M d tb (pc + 3) ls (w :: rest) (hs (w1 S' T)) sz kc ks Q) : J g M d tb pc ls st (hs (w1 S T)) sz kc ks Q := by
  refine J_cv hd hm hc hv (hT T sz) hst hn hcat hdd (Nat.zero_le _) (Nat.zero_le _) hrv (fun v h' sz' hq => ?_)
  obtain ⟨h1, ⟨T', rfl⟩, rfl⟩ := hq
  cases h1
  exact kr T'
theorem J_cvx (hd : decode M.2.1 pc = .ok (.invokevirtual idx, 3)) (hm : InT (.methodLink M.1.cls idx N.1)) (hc : CF N n) (hv : CFv N) (hT : RW g N d' (.ref a :: as) S none S') (hst : st = as.reverse ++ .ref a :: rest) (hn : as.length = n) (hcat : (rest.map fun v => v.category).sum ≤ 8) (hdd : d' + 1 ≤ d) (hrv : Rv (hs (w1 S T)) a N.1.cls) (kr : ∀ T, J g M d tb (pc + 3) ls rest (hs (w1 S' T)) sz kc ks Q) : J g M d tb pc ls st (hs (w1 S T)) sz kc ks Q := by
  refine J_cv hd hm hc hv (hT T sz) hst hn hcat hdd (Nat.zero_le _) (Nat.zero_le _) hrv (fun v h' sz' hq => ?_)
  obtain ⟨h1, ⟨T', rfl⟩, rfl⟩ := hq
  cases h1
  exact kr T'
theorem J_cnw (hd : decode M.2.1 pc = .ok (.invokevirtual idx, 3)) (hm : InN (.methodLinkNest M.1.cls idx N.1 host)) (hc : CF N n) (hv : CFv N) (hT : RW g N d' (.ref a :: as) S (some w) S') (hst : st = as.reverse ++ .ref a :: rest) (hn : as.length = n) (hcat : (rest.map fun v => v.category).sum ≤ 8) (hdd : d' + 1 ≤ d) (hrv : Rv (hs (w1 S T)) a N.1.cls) (kr : ∀ T, J g M d tb (pc + 3) ls (w :: rest) (hs (w1 S' T)) sz kc ks Q) : J g M d tb pc ls st (hs (w1 S T)) sz kc ks Q := by
  refine J_cvN hd hm hc hv (hT T sz) hst hn hcat hdd (Nat.zero_le _) (Nat.zero_le _) hrv (fun v h' sz' hq => ?_)
  obtain ⟨h1, ⟨T', rfl⟩, rfl⟩ := hq
  cases h1
  exact kr T'
theorem J_cnx (hd : decode M.2.1 pc = .ok (.invokevirtual idx, 3)) (hm : InN (.methodLinkNest M.1.cls idx N.1 host)) (hc : CF N n) (hv : CFv N) (hT : RW g N d' (.ref a :: as) S none S') (hst : st = as.reverse ++ .ref a :: rest) (hn : as.length = n) (hcat : (rest.map fun v => v.category).sum ≤ 8) (hdd : d' + 1 ≤ d) (hrv : Rv (hs (w1 S T)) a N.1.cls) (kr : ∀ T, J g M d tb (pc + 3) ls rest (hs (w1 S' T)) sz kc ks Q) : J g M d tb pc ls st (hs (w1 S T)) sz kc ks Q := by
  refine J_cvN hd hm hc hv (hT T sz) hst hn hcat hdd (Nat.zero_le _) (Nat.zero_le _) hrv (fun v h' sz' hq => ?_)
  obtain ⟨h1, ⟨T', rfl⟩, rfl⟩ := hq
  cases h1
  exact kr T'
end JW
def lsp : Nat → List (Option Value) → List (Option Value)
  | 0, l => l
  | n + 1, [] => none :: lsp n []
  | n + 1, o :: t => o :: lsp n t
theorem lsp_at : ∀ (n : Nat) (l : List (Option Value)) (i : Nat) (v : Value), (lsp n l)[i]? = some (some v) → l[i]? = some (some v)
  | 0, _, _, _, h => h
  | n + 1, [], i, v, h => by
    cases i with
    | zero => simp [lsp] at h
    | succ i =>
      have := lsp_at n [] i v (by simpa [lsp] using h)
      simp at this
  | n + 1, o :: t, i, v, h => by
    cases i with
    | zero => simpa [lsp] using h
    | succ i =>
      have := lsp_at n t i v (by simpa [lsp] using h)
      simpa using this
section JQ
variable {g : Gp} {N : Mt} {d : Nat} {as : List Value} {S S' T : Sx} {v : Option Value} {Q : Po} {sz : Nat}
theorem RT_ofQ (hy : plainName N.1.cls = true ∧ isLaw N = false) (hn : (lsl as).length ≤ N.2.2.1) (k : ∀ sz Q, Q (.inl v) (hs S') sz → J g N d [] 0 (lsp N.2.2.1 (lsl as)) [] (hs S) sz 0 0 Q) : RT g N d as S v S' := RT_of_J hy hn (fun sz => J_forget (lsp_at _ _) (k sz _ ⟨rfl, rfl, rfl⟩))
theorem RW_ofQ (hy : plainName N.1.cls = true ∧ isLaw N = false) (hn : (lsl as).length ≤ N.2.2.1) (k : ∀ T sz Q, (∀ T', Q (.inl v) (hs (w1 S' T')) sz) → J g N d [] 0 (lsp N.2.2.1 (lsl as)) [] (hs (w1 S T)) sz 0 0 Q) : RW g N d as S v S' := RW_of_J hy hn (fun T sz => J_forget (lsp_at _ _) (k T sz _ (fun T' => ⟨rfl, ⟨T', rfl⟩, rfl⟩)))
theorem rq {x y : Int32} (hQ : Q (.inl (some (.int y))) (hs S') sz) (h1 : x = y) (h2 : S = S') : Q (.inl (some (.int x))) (hs S) sz := by rw [h1, h2]; exact hQ
theorem rql {x y : Int64} (hQ : Q (.inl (some (.long y))) (hs S') sz) (h1 : x = y) (h2 : S = S') : Q (.inl (some (.long x))) (hs S) sz := by rw [h1, h2]; exact hQ
theorem rqv (hQ : Q (.inl none) (hs S') sz) (h2 : S = S') : Q (.inl none) (hs S) sz := by rw [h2]; exact hQ
theorem rqw {x y : Int32} (hQ : ∀ T', Q (.inl (some (.int y))) (hs (w1 S' T')) sz) (h1 : x = y) (h2 : S = S') : Q (.inl (some (.int x))) (hs (w1 S T)) sz := by rw [h1, h2]; exact hQ T
theorem rqlw {x y : Int64} (hQ : ∀ T', Q (.inl (some (.long y))) (hs (w1 S' T')) sz) (h1 : x = y) (h2 : S = S') : Q (.inl (some (.long x))) (hs (w1 S T)) sz := by rw [h1, h2]; exact hQ T
theorem rqvw (hQ : ∀ T', Q (.inl none) (hs (w1 S' T')) sz) (h2 : S = S') : Q (.inl none) (hs (w1 S T)) sz := by rw [h2]; exact hQ T
end JQ

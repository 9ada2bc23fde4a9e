section JA
variable {g : Gp} {M : Mt} {d : Nat} {tb : List ExceptionTableEntry} {pc idx ci k a b n i : Nat} {ls ls' : List (Option Value)} {st : List Value} {S : Sx} {sz kc ks : Nat} {Q : Po} {x v : Int32} {h : AH}
theorem J_ar1 {s1 : Nat} (hd : decode M.2.1 pc = .ok (.aaload, 1)) (hl : lay a = some (.inr (4, n, s1, 1))) (hx : x = nI i) (hi : i < n ∧ n < 2 ^ 31) (kk : J g M d tb (pc + 1) ls (.ref (s1 + i) :: st) (hs S) sz kc ks Q) : J g M d tb pc ls (.int x :: .ref a :: st) (hs S) sz kc ks Q := J_ar (t := 1) hd hl (Or.inr rfl) hx hi (by rw [Nat.one_mul]) kk
theorem J_ifp_eq {P : Prop} [Decidable P] {off : Int} {tgt : Nat} (hd : decode M.2.1 pc = .ok (.ifCond .eq off, 3)) (ht : (pc : Int) + off = (tgt : Int)) (kt : ¬ P → J g M d tb tgt ls st h sz kc ks Q) (kf : P → J g M d tb (pc + 3) ls st h sz kc ks Q) : J g M d tb pc ls (.int (bI (decide P)) :: st) h sz kc ks Q :=
  J_if_eq hd ht (fun c => kt (fun p => by rw [bI_t p] at c; exact absurd c (by decide))) (fun c => kf (Decidable.byContradiction fun p => c (bI_f p)))
theorem J_ifp_ne {P : Prop} [Decidable P] {off : Int} {tgt : Nat} (hd : decode M.2.1 pc = .ok (.ifCond .ne off, 3)) (ht : (pc : Int) + off = (tgt : Int)) (kt : P → J g M d tb tgt ls st h sz kc ks Q) (kf : ¬ P → J g M d tb (pc + 3) ls st h sz kc ks Q) : J g M d tb pc ls (.int (bI (decide P)) :: st) h sz kc ks Q :=
  J_if_ne hd ht (fun c => kt (Decidable.byContradiction fun p => c (bI_f p))) (fun c => kf (fun p => by rw [bI_t p] at c; exact absurd c (by decide)))
end JA
/-- the bits of the numbers below n of a kind -/
def msk (p : Nat → Bool) : Nat → Int32
  | 0 => 0
  | n + 1 => msk p n ||| (if p n = true then 1 <<< (ix n &&& 31) else 0)
def sm (f : Nat → Int32) : Nat → Int32
  | 0 => 0
  | n + 1 => sm f n + f n
theorem msk_t {p : Nat → Bool} {n : Nat} (h : p n = true) : msk p n ||| (1 <<< (ix n &&& 31)) = msk p (n + 1) := by show _ = msk p n ||| (if p n = true then 1 <<< (ix n &&& 31) else 0); rw [if_pos h]
theorem msk_f {p : Nat → Bool} {n : Nat} (h : ¬ p n = true) : msk p n ||| 0 = msk p (n + 1) := by show _ = msk p n ||| (if p n = true then 1 <<< (ix n &&& 31) else 0); rw [if_neg h]
theorem or0 (x : Int32) : x ||| 0 = x := by
  apply Int32.toBitVec_inj.mp
  simp
theorem msk_f0 {p : Nat → Bool} {n : Nat} (h : ¬ p n = true) : msk p n = msk p (n + 1) := by rw [← msk_f h, or0]
section JP
variable {g : Gp} {M : Mt} {d : Nat} {tb : List ExceptionTableEntry} {pc idx ci k a b n i : Nat} {ls ls' : List (Option Value)} {st : List Value} {S T : Sx} {sz kc ks : Nat} {Q : Po} {r : vw_C} {ty : Nat → FieldType} {host : String} {x v : Int32}
theorem J_putiw (hd : decode M.2.1 pc = .ok (.putfield idx, 3)) (K : KC ci r ty) (F : FLp M.1.cls idx k r) (hl : layI a k = some ci) (hf : (r.2.1 k).2.2.2 = false ∧ ty k = .int) (kk : J g M d tb (pc + 3) ls st (hs (w1 (sF S a k v) T)) sz kc ks Q) : J g M d tb pc ls (.int v :: .ref a :: st) (hs (w1 S T)) sz kc ks Q := J_puti hd K F hl hf kk
theorem J_putiNw (hd : decode M.2.1 pc = .ok (.putfield idx, 3)) (K : KC ci r ty) (F : FLn M.1.cls idx k r host) (hl : layI a k = some ci) (hf : (r.2.1 k).2.2.2 = false ∧ ty k = .int) (kk : J g M d tb (pc + 3) ls st (hs (w1 (sF S a k v) T)) sz kc ks Q) : J g M d tb pc ls (.int v :: .ref a :: st) (hs (w1 S T)) sz kc ks Q := J_putiN hd K F hl hf kk
theorem J_putpw {C : String} (hd : decode M.2.1 pc = .ok (.putfield idx, 3)) (K : KC ci r ty) (F : FLp M.1.cls idx k r) (hl : layP a k = some ci) (hf : (r.2.1 k).2.2.2 = false ∧ ty k = .object C) (kk : J g M d tb (pc + 3) ls st (hs (w1 (sP S a k b) T)) sz kc ks Q) : J g M d tb pc ls (.ref b :: .ref a :: st) (hs (w1 S T)) sz kc ks Q := J_putp hd K F hl hf kk
theorem J_putpNw {C : String} (hd : decode M.2.1 pc = .ok (.putfield idx, 3)) (K : KC ci r ty) (F : FLn M.1.cls idx k r host) (hl : layP a k = some ci) (hf : (r.2.1 k).2.2.2 = false ∧ ty k = .object C) (kk : J g M d tb (pc + 3) ls st (hs (w1 (sP S a k b) T)) sz kc ks Q) : J g M d tb pc ls (.ref b :: .ref a :: st) (hs (w1 S T)) sz kc ks Q := J_putpN hd K F hl hf kk
theorem J_isw (hd : decode M.2.1 pc = .ok (.iastore, 1)) (hl : lay a = some (.inr (0, n, 0, 0))) (hx : x = nI i) (hi : i < n ∧ n < 2 ^ 31) (kk : J g M d tb (pc + 1) ls st (hs (w1 (sA S a i v) T)) sz kc ks Q) : J g M d tb pc ls (.int v :: .int x :: .ref a :: st) (hs (w1 S T)) sz kc ks Q := J_is hd hl hx hi kk
theorem J_xsw (hd : decode M.2.1 pc = .ok (.iastore, 1)) (hl : lay a = some (.inr (0, n, 1, 0))) (hx : x = nI i) (hi : i < n ∧ n < 2 ^ 31) (kk : J g M d tb (pc + 1) ls st (hs (w1 S (sX T a i v))) sz kc ks Q) : J g M d tb pc ls (.int v :: .int x :: .ref a :: st) (hs (w1 S T)) sz kc ks Q := J_xs hd hl hx hi kk
end JP
/-- the first of the greatest above m0, and how great -/
def bst (ok : Nat → Bool) (f : Nat → Int32) (m0 : Int32) : Nat → Int32 × Int32
  | 0 => (-1, m0)
  | r + 1 => if ok r = true ∧ (bst ok f m0 r).2 < f r then (ix r, f r) else bst ok f m0 r
theorem bst_t {ok : Nat → Bool} {f : Nat → Int32} {m0 : Int32} {r : Nat} (h : ok r = true ∧ (bst ok f m0 r).2 < f r) : bst ok f m0 (r + 1) = (ix r, f r) := if_pos h
theorem bst_f {ok : Nat → Bool} {f : Nat → Int32} {m0 : Int32} {r : Nat} (h : ¬ (ok r = true ∧ (bst ok f m0 r).2 < f r)) : bst ok f m0 (r + 1) = bst ok f m0 r := if_neg h
section JM2
variable {g : Gp} {M : Mt} {d : Nat} {tb : List ExceptionTableEntry} {pc : Nat} {ls : List (Option Value)} {st : List Value} {h : AH} {sz kc ks : Nat} {Q : Po} {c c' : Value}
theorem J_mid1 (E : Nat) (X : Int32) (hj : J g M d tb E ls (.int X :: st) h sz kc ks Q) (k : (∀ y, y = X → J g M d tb E ls (.int y :: st) h sz kc ks Q) → J g M d tb pc ls (c :: st) h sz kc ks Q) : J g M d tb pc ls (c :: st) h sz kc ks Q := k (fun y hy => by rw [hy]; exact hj)
theorem J_mid2 (E : Nat) (X : Int32) (hj : J g M d tb E ls (.int X :: st) h sz kc ks Q) (k : (∀ y, y = X → J g M d tb E ls (.int y :: st) h sz kc ks Q) → J g M d tb pc ls (c :: c' :: st) h sz kc ks Q) : J g M d tb pc ls (c :: c' :: st) h sz kc ks Q := k (fun y hy => by rw [hy]; exact hj)
end JM2

abbrev Ds : Type := (Nat × List (Nat × Nat)) ⊕ (Nat × Nat × Nat × Nat)
def layM (a : Nat) : Option Ds :=
  if a = 59 then some (.inl (11, [(0, 0), (0, 0), (0, 0), (0, 0), (0, 0), (0, 0), (0, 0), (0, 0), (0, 0), (1, 60), (1, 61), (1, 62), (1, 63), (1, 64), (1, 65), (1, 66), (1, 67), (1, 68), (1, 79), (1, 90), (1, 99), (0, 0), (0, 0), (1, 108), (1, 269), (1, 430), (1, 441), (1, 452), (1, 453), (1, 454), (0, 0), (1, 535), (1, 536), (1, 537), (1, 554), (0, 0), (0, 0), (0, 0), (0, 0), (0, 0), (0, 0), (0, 0), (1, 558), (1, 559), (1, 560), (1, 561), (0, 0), (0, 0), (0, 0)])) else
  if a = 63 then some (.inr (0, 3, 0, 0)) else
  if a = 60 then some (.inr (0, 600, 0, 0)) else
  if a = 535 then some (.inr (0, 45, 0, 0)) else
  if a = 536 then some (.inr (0, 45, 0, 0)) else
  if a = 61 then some (.inr (0, 2, 0, 0)) else
  if a = 62 then some (.inr (0, 3, 0, 0)) else
  if a = 64 then some (.inr (0, 8, 0, 0)) else
  if a = 65 then some (.inr (0, 8, 0, 0)) else
  if a = 66 then some (.inr (0, 8, 0, 0)) else
  if a = 67 then some (.inr (0, 8, 0, 0)) else
  if a = 68 then some (.inr (4, 10, 69, 1)) else
  if a = 79 then some (.inr (4, 10, 80, 1)) else
  if a = 90 then some (.inr (4, 8, 91, 1)) else
  if a = 99 then some (.inr (4, 8, 100, 1)) else
  if a = 108 then some (.inr (4, 160, 109, 1)) else
  if a = 269 then some (.inr (4, 160, 270, 1)) else
  if a = 430 then some (.inr (4, 10, 431, 1)) else
  if a = 441 then some (.inr (4, 10, 442, 1)) else
  if a = 452 then some (.inr (0, 160, 1, 0)) else
  if a = 453 then some (.inr (0, 8, 1, 0)) else
  if a = 454 then some (.inr (4, 80, 455, 1)) else
  if a = 537 then some (.inr (4, 16, 538, 1)) else
  if a = 554 then some (.inr (4, 3, 555, 1)) else
  if a = 558 then some (.inr (0, 8, 0, 0)) else
  if a = 559 then some (.inr (0, 8, 0, 0)) else
  if a = 560 then some (.inr (0, 8, 0, 0)) else
  if a = 561 then some (.inr (0, 9, 0, 0)) else
  if a = 562 then some (.inr (2, 1, 0, 0)) else
  if 69 ≤ a ∧ a < 79 then some (.inr (0, 3, 0, 0)) else
  if 80 ≤ a ∧ a < 90 then some (.inr (0, 3, 0, 0)) else
  if 91 ≤ a ∧ a < 99 then some (.inr (0, 2, 0, 0)) else
  if 100 ≤ a ∧ a < 108 then some (.inr (0, 2, 0, 0)) else
  if 109 ≤ a ∧ a < 269 then some (.inr (0, 2, 0, 0)) else
  if 270 ≤ a ∧ a < 430 then some (.inr (0, 2, 0, 0)) else
  if 431 ≤ a ∧ a < 441 then some (.inr (0, 2, 0, 0)) else
  if 442 ≤ a ∧ a < 452 then some (.inr (0, 2, 0, 0)) else
  if 455 ≤ a ∧ a < 535 then some (.inr (0, 4, 0, 0)) else
  if 538 ≤ a ∧ a < 554 then some (.inr (0, 45, 0, 0)) else
  if 555 ≤ a ∧ a < 558 then some (.inr (0, 766, 0, 0)) else
  none
def layC (a : Nat) : Option Ds :=
  if a = 0 then some (.inl (10, [(1, 1), (1, 3), (1, 18), (1, 23), (1, 24), (1, 28), (1, 32), (1, 34), (1, 36), (2, 0), (2, 0), (2, 0), (2, 0), (0, 0), (0, 0), (0, 0)])) else
  if a = 1 then some (.inl (8, [(1, 2), (0, 0), (0, 0), (0, 0), (0, 0), (0, 0), (0, 0)])) else
  if a = 2 then some (.inr (1, 600, 0, 0)) else
  if a = 3 then some (.inl (0, [(1, 16), (1, 17), (2, 0), (2, 0)])) else
  if a = 4 then some (.inl (1, [(1, 5), (1, 6), (1, 7), (1, 8), (1, 9), (1, 10), (1, 11), (1, 12), (0, 0), (0, 0), (0, 0)])) else
  if a = 5 then some (.inr (0, 8, 0, 0)) else
  if a = 6 then some (.inr (0, 8, 0, 0)) else
  if a = 7 then some (.inr (0, 8, 0, 0)) else
  if a = 8 then some (.inr (0, 10, 0, 0)) else
  if a = 9 then some (.inr (0, 10, 0, 0)) else
  if a = 10 then some (.inr (0, 10, 0, 0)) else
  if a = 11 then some (.inr (0, 8, 0, 0)) else
  if a = 12 then some (.inr (0, 8, 0, 0)) else
  if a = 13 then some (.inl (2, [(1, 14), (1, 15), (0, 0)])) else
  if a = 14 then some (.inr (0, 150, 0, 0)) else
  if a = 15 then some (.inr (0, 24, 1, 0)) else
  if a = 16 then some (.inr (0, 31, 0, 0)) else
  if a = 17 then some (.inr (0, 8, 1, 0)) else
  if a = 18 then some (.inl (4, [(1, 19), (1, 20), (1, 21), (1, 22), (0, 0), (0, 0), (0, 0), (0, 0)])) else
  if a = 19 then some (.inr (0, 37, 0, 0)) else
  if a = 20 then some (.inr (0, 37, 0, 0)) else
  if a = 21 then some (.inr (0, 37, 0, 0)) else
  if a = 22 then some (.inr (0, 37, 0, 0)) else
  if a = 23 then some (.inl (7, [(0, 0), (0, 0), (0, 0)])) else
  if a = 24 then some (.inl (3, [(1, 25), (1, 26), (1, 27), (0, 0)])) else
  if a = 25 then some (.inr (0, 8, 0, 0)) else
  if a = 26 then some (.inr (0, 8, 0, 0)) else
  if a = 27 then some (.inr (0, 10, 0, 0)) else
  if a = 28 then some (.inl (9, [(1, 29), (0, 0), (0, 0), (0, 0)])) else
  if a = 29 then some (.inl (0, [(1, 30), (1, 31), (2, 0), (2, 0)])) else
  if a = 30 then some (.inr (0, 31, 0, 0)) else
  if a = 31 then some (.inr (0, 8, 1, 0)) else
  if a = 32 then some (.inl (5, [(0, 0), (0, 0), (1, 33), (0, 0)])) else
  if a = 33 then some (.inr (0, 496, 0, 0)) else
  if a = 34 then some (.inl (5, [(0, 0), (0, 0), (1, 35), (0, 0)])) else
  if a = 35 then some (.inr (0, 93, 0, 0)) else
  if a = 36 then some (.inr (3, 3, 53, 2)) else
  if a = 37 then some (.inl (6, [(1, 38), (0, 0)])) else
  if a = 38 then some (.inr (0, 10, 0, 0)) else
  if a = 39 then some (.inl (1, [(1, 40), (1, 41), (1, 42), (1, 43), (1, 44), (1, 45), (1, 46), (1, 47), (0, 0), (0, 0), (0, 0)])) else
  if a = 40 then some (.inr (0, 8, 0, 0)) else
  if a = 41 then some (.inr (0, 8, 0, 0)) else
  if a = 42 then some (.inr (0, 8, 0, 0)) else
  if a = 43 then some (.inr (0, 10, 0, 0)) else
  if a = 44 then some (.inr (0, 10, 0, 0)) else
  if a = 45 then some (.inr (0, 10, 0, 0)) else
  if a = 46 then some (.inr (0, 8, 0, 0)) else
  if a = 47 then some (.inr (0, 8, 0, 0)) else
  if a = 48 then some (.inl (2, [(1, 49), (1, 50), (0, 0)])) else
  if a = 49 then some (.inr (0, 150, 0, 0)) else
  if a = 50 then some (.inr (0, 24, 1, 0)) else
  if a = 51 then some (.inl (6, [(1, 52), (0, 0)])) else
  if a = 52 then some (.inr (0, 10, 0, 0)) else
  if a = 53 then some (.inl (5, [(0, 0), (0, 0), (1, 54), (0, 0)])) else
  if a = 54 then some (.inr (0, 496, 0, 0)) else
  if a = 55 then some (.inl (5, [(0, 0), (0, 0), (1, 56), (0, 0)])) else
  if a = 56 then some (.inr (0, 496, 0, 0)) else
  if a = 57 then some (.inl (5, [(0, 0), (0, 0), (1, 58), (0, 0)])) else
  if a = 58 then some (.inr (0, 496, 0, 0)) else
  none
def lay (a : Nat) : Option Ds := if 59 ≤ a then layM a else layC a
def lay_isr (a m : Nat) : Bool := match lay a with
  | some (.inr (0, n, 0, 0)) => n == m
  | _ => false
theorem lay_row {a m : Nat} (h : lay_isr a m = true) : lay a = some (.inr (0, m, 0, 0)) := by
  unfold lay_isr at h
  split at h
  · next n e => rw [e, eq_of_beq h]
  · cases h
theorem lay_readRelic {k : Nat} (hk : k < 10) : lay (69 + k) = some (.inr (0, 3, 0, 0)) := lay_row (List.all_eq_true.mp (show (List.range 10).all (fun k => lay_isr (69 + k) 3) = true by decide +kernel) k (List.mem_range.mpr hk))
theorem lay_relic {k : Nat} (hk : k < 10) : lay (80 + k) = some (.inr (0, 3, 0, 0)) := lay_row (List.all_eq_true.mp (show (List.range 10).all (fun k => lay_isr (80 + k) 3) = true by decide +kernel) k (List.mem_range.mpr hk))
theorem lay_readPilgrim {k : Nat} (hk : k < 8) : lay (91 + k) = some (.inr (0, 2, 0, 0)) := lay_row (List.all_eq_true.mp (show (List.range 8).all (fun k => lay_isr (91 + k) 2) = true by decide +kernel) k (List.mem_range.mpr hk))
theorem lay_pilgrim {k : Nat} (hk : k < 8) : lay (100 + k) = some (.inr (0, 2, 0, 0)) := lay_row (List.all_eq_true.mp (show (List.range 8).all (fun k => lay_isr (100 + k) 2) = true by decide +kernel) k (List.mem_range.mpr hk))
theorem lay_law {k : Nat} (hk : k < 160) : lay (109 + k) = some (.inr (0, 2, 0, 0)) := lay_row (List.all_eq_true.mp (show (List.range 160).all (fun k => lay_isr (109 + k) 2) = true by decide +kernel) k (List.mem_range.mpr hk))
theorem lay_readLaw {k : Nat} (hk : k < 160) : lay (270 + k) = some (.inr (0, 2, 0, 0)) := lay_row (List.all_eq_true.mp (show (List.range 160).all (fun k => lay_isr (270 + k) 2) = true by decide +kernel) k (List.mem_range.mpr hk))
theorem lay_line {k : Nat} (hk : k < 10) : lay (431 + k) = some (.inr (0, 2, 0, 0)) := lay_row (List.all_eq_true.mp (show (List.range 10).all (fun k => lay_isr (431 + k) 2) = true by decide +kernel) k (List.mem_range.mpr hk))
theorem lay_readLine {k : Nat} (hk : k < 10) : lay (442 + k) = some (.inr (0, 2, 0, 0)) := lay_row (List.all_eq_true.mp (show (List.range 10).all (fun k => lay_isr (442 + k) 2) = true by decide +kernel) k (List.mem_range.mpr hk))
theorem lay_step {k : Nat} (hk : k < 80) : lay (455 + k) = some (.inr (0, 4, 0, 0)) := lay_row (List.all_eq_true.mp (show (List.range 80).all (fun k => lay_isr (455 + k) 4) = true by decide +kernel) k (List.mem_range.mpr hk))
theorem lay_before {k : Nat} (hk : k < 16) : lay (538 + k) = some (.inr (0, 45, 0, 0)) := lay_row (List.all_eq_true.mp (show (List.range 16).all (fun k => lay_isr (538 + k) 45) = true by decide +kernel) k (List.mem_range.mpr hk))
theorem lay_kept {k : Nat} (hk : k < 3) : lay (555 + k) = some (.inr (0, 766, 0, 0)) := lay_row (List.all_eq_true.mp (show (List.range 3).all (fun k => lay_isr (555 + k) 766) = true by decide +kernel) k (List.mem_range.mpr hk))
/-- int fields, pointer fields, arrays, the law's long, arrays that hold nothing from one call to the next -/
abbrev Sx : Type := (Nat → Nat → Int32) × (Nat → Nat → Nat) × (Nat → Nat → Int32) × (Nat → Int64) × (Nat → Nat → Int32)
abbrev sf (S : Sx) : Nat → Nat → Int32 := S.1
abbrev sp (S : Sx) : Nat → Nat → Nat := S.2.1
abbrev sa (S : Sx) : Nat → Nat → Int32 := S.2.2.1
abbrev sl (S : Sx) : Nat → Int64 := S.2.2.2.1
abbrev sx (S : Sx) : Nat → Nat → Int32 := S.2.2.2.2
def up2 {α : Type} (f : Nat → Nat → α) (a k : Nat) (v : α) : Nat → Nat → α := fun x y => if x = a then (if y = k then v else f x y) else f x y
def sF (S : Sx) (a k : Nat) (v : Int32) : Sx := (up2 (sf S) a k v, sp S, sa S, sl S, sx S)
def sP (S : Sx) (a k : Nat) (v : Nat) : Sx := (sf S, up2 (sp S) a k v, sa S, sl S, sx S)
def sA (S : Sx) (a k : Nat) (v : Int32) : Sx := (sf S, sp S, up2 (sa S) a k v, sl S, sx S)
def sL (S : Sx) (k : Nat) (v : Int64) : Sx := (sf S, sp S, sa S, vp_updL (sl S) k v, sx S)
def sX (S : Sx) (a k : Nat) (v : Int32) : Sx := (sf S, sp S, sa S, sl S, up2 (sx S) a k v)
def fvl (S : Sx) (a : Nat) : Nat → List (Nat × Nat) → List Value
  | _, [] => []
  | k, (0, _) :: t => .int (sf S a k) :: fvl S a (k + 1) t
  | k, (1, b) :: t => .ref b :: fvl S a (k + 1) t
  | k, (_ + 2, _) :: t => .ref (sp S a k) :: fvl S a (k + 1) t
def inst (S : Sx) (a : Nat) (d : Ds) : AE := match d with
  | .inl (ci, fds) => .inr (ci, fvl S a 0 fds)
  | .inr (0, n, 0, _) => .inl (0, n, .inl (sa S a))
  | .inr (0, n, _ + 1, _) => .inl (0, n, .inl (sx S a))
  | .inr (1, n, _, _) => .inl (1, n, .inl (sa S a))
  | .inr (2, n, _, _) => .inl (2, n, .inr (.inl (sl S)))
  | .inr (k + 3, n, b, s) => .inl (k + 3, n, .inr (.inr (.inr (.inr (fun i => if i < n then some (b + s * i) else none)))))
def hs (S : Sx) : AH := fun a => (lay a).map (inst S a)
theorem hs_at {S : Sx} {a : Nat} {d : Ds} (h : lay a = some d) : hs S a = some (inst S a d) := by unfold hs; rw [h]; rfl
theorem fvl_len (S : Sx) (a : Nat) : ∀ (k : Nat) (l : List (Nat × Nat)), (fvl S a k l).length = l.length
  | _, [] => rfl
  | k, (0, _) :: t => by simp [fvl, fvl_len S a (k + 1) t]
  | k, (1, _) :: t => by simp [fvl, fvl_len S a (k + 1) t]
  | k, (_ + 2, _) :: t => by simp [fvl, fvl_len S a (k + 1) t]
theorem fvl_i (S : Sx) (a : Nat) : ∀ (o k x : Nat) (l : List (Nat × Nat)), l[k]? = some (0, x) → (fvl S a o l)[k]? = some (.int (sf S a (o + k)))
  | o, k, x, [], h => by simp at h
  | o, 0, x, d :: t, h => by simp at h; subst h; simp [fvl]
  | o, k + 1, x, d :: t, h => by
    have ih := fvl_i S a (o + 1) k x t (by simpa using h)
    rw [show o + (k + 1) = o + 1 + k by omega]
    match d with
    | (0, _) => simpa [fvl] using ih
    | (1, _) => simpa [fvl] using ih
    | (_ + 2, _) => simpa [fvl] using ih
theorem fvl_r (S : Sx) (a : Nat) : ∀ (o k b : Nat) (l : List (Nat × Nat)), l[k]? = some (1, b) → (fvl S a o l)[k]? = some (.ref b)
  | o, k, x, [], h => by simp at h
  | o, 0, x, d :: t, h => by simp at h; subst h; simp [fvl]
  | o, k + 1, x, d :: t, h => by
    have ih := fvl_r S a (o + 1) k x t (by simpa using h)
    match d with
    | (0, _) => simpa [fvl] using ih
    | (1, _) => simpa [fvl] using ih
    | (_ + 2, _) => simpa [fvl] using ih
theorem fvl_p (S : Sx) (a : Nat) : ∀ (o k x : Nat) (l : List (Nat × Nat)), l[k]? = some (2, x) → (fvl S a o l)[k]? = some (.ref (sp S a (o + k)))
  | o, k, x, [], h => by simp at h
  | o, 0, x, d :: t, h => by simp at h; subst h; simp [fvl]
  | o, k + 1, x, d :: t, h => by
    have ih := fvl_p S a (o + 1) k x t (by simpa using h)
    rw [show o + (k + 1) = o + 1 + k by omega]
    match d with
    | (0, _) => simpa [fvl] using ih
    | (1, _) => simpa [fvl] using ih
    | (_ + 2, _) => simpa [fvl] using ih
theorem fvl_setF (S : Sx) (a : Nat) (v : Int32) : ∀ (o k x : Nat) (l : List (Nat × Nat)), l[k]? = some (0, x) → (fvl S a o l).set k (.int v) = fvl (sF S a (o + k) v) a o l
  | o, k, x, [], h => by simp at h
  | o, 0, x, d :: t, h => by
    simp at h; subst h
    have e : fvl (sF S a o v) a (o + 1) t = fvl S a (o + 1) t := by
      have gen : ∀ (l : List (Nat × Nat)) (j : Nat), o < j → fvl (sF S a o v) a j l = fvl S a j l := by
        intro l
        induction l with
        | nil => intro j _; rfl
        | cons d l ih =>
          intro j hj
          match d with
          | (0, _) => simp only [fvl, ih (j + 1) (by omega)]; simp [sF, sf, up2, show j ≠ o by omega]
          | (1, _) => simp only [fvl, ih (j + 1) (by omega)]
          | (_ + 2, _) => simp only [fvl, ih (j + 1) (by omega)]; simp [sF]
      exact gen t (o + 1) (by omega)
    show Value.int v :: fvl S a (o + 1) t = .int (sf (sF S a o v) a o) :: fvl (sF S a o v) a (o + 1) t
    rw [e]
    simp [sF, sf, up2]
  | o, k + 1, x, d :: t, h => by
    have ih := fvl_setF S a v (o + 1) k x t (by simpa using h)
    rw [show o + 1 + k = o + (k + 1) by omega] at ih
    match d with
    | (0, _) => simp only [fvl, List.set_cons_succ, ih]; simp [sF, sf, up2]
    | (1, _) => simp only [fvl, List.set_cons_succ, ih]
    | (_ + 2, _) => simp only [fvl, List.set_cons_succ, ih]; simp [sF]
theorem fvl_setP (S : Sx) (a v : Nat) : ∀ (o k x : Nat) (l : List (Nat × Nat)), l[k]? = some (2, x) → (fvl S a o l).set k (.ref v) = fvl (sP S a (o + k) v) a o l
  | o, k, x, [], h => by simp at h
  | o, 0, x, d :: t, h => by
    simp at h; subst h
    have e : fvl (sP S a o v) a (o + 1) t = fvl S a (o + 1) t := by
      have gen : ∀ (l : List (Nat × Nat)) (j : Nat), o < j → fvl (sP S a o v) a j l = fvl S a j l := by
        intro l
        induction l with
        | nil => intro j _; rfl
        | cons d l ih =>
          intro j hj
          match d with
          | (0, _) => simp only [fvl, ih (j + 1) (by omega)]; simp [sP]
          | (1, _) => simp only [fvl, ih (j + 1) (by omega)]
          | (_ + 2, _) => simp only [fvl, ih (j + 1) (by omega)]; simp [sP, sp, up2, show j ≠ o by omega]
      exact gen t (o + 1) (by omega)
    show Value.ref v :: fvl S a (o + 1) t = .ref (sp (sP S a o v) a o) :: fvl (sP S a o v) a (o + 1) t
    rw [e]
    simp [sP, sp, up2]
  | o, k + 1, x, d :: t, h => by
    have ih := fvl_setP S a v (o + 1) k x t (by simpa using h)
    rw [show o + 1 + k = o + (k + 1) by omega] at ih
    match d with
    | (0, _) => simp only [fvl, List.set_cons_succ, ih]; simp [sP]
    | (1, _) => simp only [fvl, List.set_cons_succ, ih]
    | (_ + 2, _) => simp only [fvl, List.set_cons_succ, ih]; simp [sP, sp, up2]
/-- field k of a, by its kind: an int, a fixed reference, a pointer -/
def layI (a k : Nat) : Option Nat := match lay a with
  | some (.inl (ci, fds)) => match fds[k]? with
    | some (0, _) => some ci
    | _ => none
  | _ => none
def layR (a k : Nat) : Option (Nat × Nat) := match lay a with
  | some (.inl (ci, fds)) => match fds[k]? with
    | some (1, b) => some (ci, b)
    | _ => none
  | _ => none
def layP (a k : Nat) : Option Nat := match lay a with
  | some (.inl (ci, fds)) => match fds[k]? with
    | some (2, _) => some ci
    | _ => none
  | _ => none
theorem layI_spec {a k ci : Nat} (h : layI a k = some ci) : ∃ fds x, lay a = some (.inl (ci, fds)) ∧ fds[k]? = some (0, x) := by
  unfold layI at h
  split at h
  · next c fds e =>
    split at h
    · next x e2 => cases h; exact ⟨fds, x, e, e2⟩
    · cases h
  · cases h
theorem layR_spec {a k ci b : Nat} (h : layR a k = some (ci, b)) : ∃ fds, lay a = some (.inl (ci, fds)) ∧ fds[k]? = some (1, b) := by
  unfold layR at h
  split at h
  · next c fds e =>
    split at h
    · next x e2 => cases h; exact ⟨fds, e, e2⟩
    · cases h
  · cases h
theorem layP_spec {a k ci : Nat} (h : layP a k = some ci) : ∃ fds x, lay a = some (.inl (ci, fds)) ∧ fds[k]? = some (2, x) := by
  unfold layP at h
  split at h
  · next c fds e =>
    split at h
    · next x e2 => cases h; exact ⟨fds, x, e, e2⟩
    · cases h
  · cases h
theorem hup_hs {S S' : Sx} {a : Nat} {d : Ds} {e : AE} (hl : lay a = some d) (he : inst S' a d = e) (ho : ∀ b d', b ≠ a → lay b = some d' → inst S' b d' = inst S b d') : hup (hs S) a e = hs S' := by
  funext q
  by_cases hq : q = a
  · subst hq
    rw [hup_s, hs_at hl, he]
  · rw [hup_n hq]
    unfold hs
    cases hc : lay q with
    | none => rfl
    | some d' => simp [ho q d' hq hc]
theorem fvl_other (S S' : Sx) (b : Nat) (h1 : ∀ k, sf S' b k = sf S b k) (h2 : ∀ k, sp S' b k = sp S b k) : ∀ (o : Nat) (l : List (Nat × Nat)), fvl S' b o l = fvl S b o l
  | _, [] => rfl
  | k, (0, _) :: t => by simp only [fvl, h1, fvl_other S S' b h1 h2 (k + 1) t]
  | k, (1, _) :: t => by simp only [fvl, fvl_other S S' b h1 h2 (k + 1) t]
  | k, (_ + 2, _) :: t => by simp only [fvl, h2, fvl_other S S' b h1 h2 (k + 1) t]
theorem inst_other {S S' : Sx} {b : Nat} (d : Ds) (h1 : ∀ k, sf S' b k = sf S b k) (h2 : ∀ k, sp S' b k = sp S b k) (h3 : sa S' b = sa S b) (h4 : sl S' = sl S) (h5 : sx S' b = sx S b) : inst S' b d = inst S b d := by
  match d with
  | .inl (ci, fds) => simp only [inst, fvl_other S S' b h1 h2]
  | .inr (0, n, 0, _) => simp only [inst, h3]
  | .inr (0, n, _ + 1, _) => simp only [inst, h5]
  | .inr (1, n, _, _) => simp only [inst, h3]
  | .inr (2, n, _, _) => simp only [inst, h4]
  | .inr (k + 3, n, b, s) => simp only [inst]
theorem up2_o {α : Type} {f : Nat → Nat → α} {a k b : Nat} {v : α} (h : b ≠ a) : up2 f a k v b = f b := by funext y; simp [up2, h]
theorem hup_F {S : Sx} {a k ci x : Nat} {fds : List (Nat × Nat)} {v : Int32} (hl : lay a = some (.inl (ci, fds))) (hk : fds[k]? = some (0, x)) : hup (hs S) a (.inr (ci, (fvl S a 0 fds).set k (.int v))) = hs (sF S a k v) := by
  refine hup_hs hl ?_ (fun b d' hb _ => inst_other d' (fun j => by simp [sF, sf, up2_o hb]) (fun _ => rfl) rfl rfl rfl)
  show Sum.inr (ci, fvl (sF S a k v) a 0 fds) = _
  rw [fvl_setF S a v 0 k x fds hk, Nat.zero_add]
theorem hup_P {S : Sx} {a k ci x v : Nat} {fds : List (Nat × Nat)} (hl : lay a = some (.inl (ci, fds))) (hk : fds[k]? = some (2, x)) : hup (hs S) a (.inr (ci, (fvl S a 0 fds).set k (.ref v))) = hs (sP S a k v) := by
  refine hup_hs hl ?_ (fun b d' hb _ => inst_other d' (fun _ => rfl) (fun j => by simp [sP, sp, up2_o hb]) rfl rfl rfl)
  show Sum.inr (ci, fvl (sP S a k v) a 0 fds) = _
  rw [fvl_setP S a v 0 k x fds hk, Nat.zero_add]
theorem up2_upd (f : Nat → Nat → Int32) (a k : Nat) (v : Int32) : up2 f a k v a = upd (f a) k v := by funext y; simp [up2, upd]
theorem hup_A {S : Sx} {a k n : Nat} {v : Int32} (hl : lay a = some (.inr (0, n, 0, 0))) : hup (hs S) a (.inl (0, n, .inl (upd (sa S a) k v))) = hs (sA S a k v) := by
  refine hup_hs hl ?_ (fun b d' hb _ => inst_other d' (fun _ => rfl) (fun _ => rfl) (by simp [sA, sa, up2_o hb]) rfl rfl)
  show Sum.inl (0, n, Sum.inl (up2 (sa S) a k v a)) = _
  rw [up2_upd]
theorem hup_B {S : Sx} {a k n : Nat} {v : Int32} (hl : lay a = some (.inr (1, n, 0, 0))) : hup (hs S) a (.inl (1, n, .inl (upd (sa S a) k v))) = hs (sA S a k v) := by
  refine hup_hs hl ?_ (fun b d' hb _ => inst_other d' (fun _ => rfl) (fun _ => rfl) (by simp [sA, sa, up2_o hb]) rfl rfl)
  show Sum.inl (1, n, Sum.inl (up2 (sa S) a k v a)) = _
  rw [up2_upd]
theorem hup_X {S : Sx} {a k n : Nat} {v : Int32} (hl : lay a = some (.inr (0, n, 1, 0))) : hup (hs S) a (.inl (0, n, .inl (upd (sx S a) k v))) = hs (sX S a k v) := by
  refine hup_hs hl ?_ (fun b d' hb _ => inst_other d' (fun _ => rfl) (fun _ => rfl) rfl rfl (by simp [sX, sx, up2_o hb]))
  show Sum.inl (0, n, Sum.inl (up2 (sx S) a k v a)) = _
  rw [up2_upd]
section JS
variable {g : Gp} {M : Mt} {d : Nat} {tb : List ExceptionTableEntry} {pc idx ci k a b n i : Nat} {ls ls' : List (Option Value)} {st : List Value} {S : Sx} {sz kc ks : Nat} {Q : Po} {r : vw_C} {ty : Nat → FieldType} {host : String} {x v : Int32}
theorem J_geti (hd : decode M.2.1 pc = .ok (.getfield idx, 3)) (K : KC ci r ty) (F : FLp M.1.cls idx k r) (hl : layI a k = some ci) (kk : J g M d tb (pc + 3) ls (.int (sf S a k) :: st) (hs S) sz kc ks Q) : J g M d tb pc ls (.ref a :: st) (hs S) sz kc ks Q := by
  obtain ⟨fds, y, h1, h2⟩ := layI_spec hl
  have := fvl_i S a 0 k y fds h2
  rw [Nat.zero_add] at this
  exact J_get hd K F (hs_at h1) this kk
theorem J_getiN (hd : decode M.2.1 pc = .ok (.getfield idx, 3)) (K : KC ci r ty) (F : FLn M.1.cls idx k r host) (hl : layI a k = some ci) (kk : J g M d tb (pc + 3) ls (.int (sf S a k) :: st) (hs S) sz kc ks Q) : J g M d tb pc ls (.ref a :: st) (hs S) sz kc ks Q := by
  obtain ⟨fds, y, h1, h2⟩ := layI_spec hl
  have := fvl_i S a 0 k y fds h2
  rw [Nat.zero_add] at this
  exact J_getN hd K F (hs_at h1) this kk
theorem J_getr (hd : decode M.2.1 pc = .ok (.getfield idx, 3)) (K : KC ci r ty) (F : FLp M.1.cls idx k r) (hl : layR a k = some (ci, b)) (kk : J g M d tb (pc + 3) ls (.ref b :: st) (hs S) sz kc ks Q) : J g M d tb pc ls (.ref a :: st) (hs S) sz kc ks Q := by
  obtain ⟨fds, h1, h2⟩ := layR_spec hl
  exact J_get hd K F (hs_at h1) (fvl_r S a 0 k b fds h2) kk
theorem J_getrN (hd : decode M.2.1 pc = .ok (.getfield idx, 3)) (K : KC ci r ty) (F : FLn M.1.cls idx k r host) (hl : layR a k = some (ci, b)) (kk : J g M d tb (pc + 3) ls (.ref b :: st) (hs S) sz kc ks Q) : J g M d tb pc ls (.ref a :: st) (hs S) sz kc ks Q := by
  obtain ⟨fds, h1, h2⟩ := layR_spec hl
  exact J_getN hd K F (hs_at h1) (fvl_r S a 0 k b fds h2) kk
theorem J_getp (hd : decode M.2.1 pc = .ok (.getfield idx, 3)) (K : KC ci r ty) (F : FLp M.1.cls idx k r) (hl : layP a k = some ci) (kk : J g M d tb (pc + 3) ls (.ref (sp S a k) :: st) (hs S) sz kc ks Q) : J g M d tb pc ls (.ref a :: st) (hs S) sz kc ks Q := by
  obtain ⟨fds, y, h1, h2⟩ := layP_spec hl
  have := fvl_p S a 0 k y fds h2
  rw [Nat.zero_add] at this
  exact J_get hd K F (hs_at h1) this kk
theorem J_getpN (hd : decode M.2.1 pc = .ok (.getfield idx, 3)) (K : KC ci r ty) (F : FLn M.1.cls idx k r host) (hl : layP a k = some ci) (kk : J g M d tb (pc + 3) ls (.ref (sp S a k) :: st) (hs S) sz kc ks Q) : J g M d tb pc ls (.ref a :: st) (hs S) sz kc ks Q := by
  obtain ⟨fds, y, h1, h2⟩ := layP_spec hl
  have := fvl_p S a 0 k y fds h2
  rw [Nat.zero_add] at this
  exact J_getN hd K F (hs_at h1) this kk
theorem J_puti (hd : decode M.2.1 pc = .ok (.putfield idx, 3)) (K : KC ci r ty) (F : FLp M.1.cls idx k r) (hl : layI a k = some ci) (hf : (r.2.1 k).2.2.2 = false ∧ ty k = .int) (kk : J g M d tb (pc + 3) ls st (hs (sF S a k v)) sz kc ks Q) : J g M d tb pc ls (.int v :: .ref a :: st) (hs S) sz kc ks Q := by
  obtain ⟨fds, y, h1, h2⟩ := layI_spec hl
  refine J_put hd K F hf.1 (hs_at h1) (by rw [fvl_len]; exact (List.getElem?_eq_some_iff.mp h2).1) (by rw [hf.2]; rfl) (by rw [hf.2]; rfl) ?_
  rw [hup_F h1 h2]
  exact kk
theorem J_putiN (hd : decode M.2.1 pc = .ok (.putfield idx, 3)) (K : KC ci r ty) (F : FLn M.1.cls idx k r host) (hl : layI a k = some ci) (hf : (r.2.1 k).2.2.2 = false ∧ ty k = .int) (kk : J g M d tb (pc + 3) ls st (hs (sF S a k v)) sz kc ks Q) : J g M d tb pc ls (.int v :: .ref a :: st) (hs S) sz kc ks Q := by
  obtain ⟨fds, y, h1, h2⟩ := layI_spec hl
  refine J_putN hd K F hf.1 (hs_at h1) (by rw [fvl_len]; exact (List.getElem?_eq_some_iff.mp h2).1) (by rw [hf.2]; rfl) (by rw [hf.2]; rfl) ?_
  rw [hup_F h1 h2]
  exact kk
theorem J_putp {C : String} (hd : decode M.2.1 pc = .ok (.putfield idx, 3)) (K : KC ci r ty) (F : FLp M.1.cls idx k r) (hl : layP a k = some ci) (hf : (r.2.1 k).2.2.2 = false ∧ ty k = .object C) (kk : J g M d tb (pc + 3) ls st (hs (sP S a k b)) sz kc ks Q) : J g M d tb pc ls (.ref b :: .ref a :: st) (hs S) sz kc ks Q := by
  obtain ⟨fds, y, h1, h2⟩ := layP_spec hl
  refine J_put hd K F hf.1 (hs_at h1) (by rw [fvl_len]; exact (List.getElem?_eq_some_iff.mp h2).1) (by rw [hf.2]; rfl) (by rw [hf.2]; rfl) ?_
  rw [hup_P h1 h2]
  exact kk
theorem J_putpN {C : String} (hd : decode M.2.1 pc = .ok (.putfield idx, 3)) (K : KC ci r ty) (F : FLn M.1.cls idx k r host) (hl : layP a k = some ci) (hf : (r.2.1 k).2.2.2 = false ∧ ty k = .object C) (kk : J g M d tb (pc + 3) ls st (hs (sP S a k b)) sz kc ks Q) : J g M d tb pc ls (.ref b :: .ref a :: st) (hs S) sz kc ks Q := by
  obtain ⟨fds, y, h1, h2⟩ := layP_spec hl
  refine J_putN hd K F hf.1 (hs_at h1) (by rw [fvl_len]; exact (List.getElem?_eq_some_iff.mp h2).1) (by rw [hf.2]; rfl) (by rw [hf.2]; rfl) ?_
  rw [hup_P h1 h2]
  exact kk
/-- an index: i as an int -/
theorem J_il (hd : decode M.2.1 pc = .ok (.iaload, 1)) (hl : lay a = some (.inr (0, n, 0, 0))) (hx : x = nI i) (hi : i < n ∧ n < 2 ^ 31) (kk : J g M d tb (pc + 1) ls (.int (sa S a i) :: st) (hs S) sz kc ks Q) : J g M d tb pc ls (.int x :: .ref a :: st) (hs S) sz kc ks Q := by
  subst hx
  refine J_iald hd (hs_at hl) (vp_in_nI hi.1 hi.2) ?_
  rw [nI_clamp (by omega)]
  exact kk
theorem J_bl (hd : decode M.2.1 pc = .ok (.baload, 1)) (hl : lay a = some (.inr (1, n, 0, 0))) (hx : x = nI i) (hi : i < n ∧ n < 2 ^ 31) (kk : J g M d tb (pc + 1) ls (.int (sa S a i) :: st) (hs S) sz kc ks Q) : J g M d tb pc ls (.int x :: .ref a :: st) (hs S) sz kc ks Q := by
  subst hx
  refine J_bald hd (hs_at hl) (vp_in_nI hi.1 hi.2) ?_
  rw [nI_clamp (by omega)]
  exact kk
theorem J_is (hd : decode M.2.1 pc = .ok (.iastore, 1)) (hl : lay a = some (.inr (0, n, 0, 0))) (hx : x = nI i) (hi : i < n ∧ n < 2 ^ 31) (kk : J g M d tb (pc + 1) ls st (hs (sA S a i v)) sz kc ks Q) : J g M d tb pc ls (.int v :: .int x :: .ref a :: st) (hs S) sz kc ks Q := by
  subst hx
  refine J_iast hd (hs_at hl) (vp_in_nI hi.1 hi.2) ?_
  rw [nI_clamp (by omega), hup_A hl]
  exact kk
theorem J_xl (hd : decode M.2.1 pc = .ok (.iaload, 1)) (hl : lay a = some (.inr (0, n, 1, 0))) (hx : x = nI i) (hi : i < n ∧ n < 2 ^ 31) (kk : J g M d tb (pc + 1) ls (.int (sx S a i) :: st) (hs S) sz kc ks Q) : J g M d tb pc ls (.int x :: .ref a :: st) (hs S) sz kc ks Q := by
  subst hx
  refine J_iald hd (hs_at hl) (vp_in_nI hi.1 hi.2) ?_
  rw [nI_clamp (by omega)]
  exact kk
theorem J_xs (hd : decode M.2.1 pc = .ok (.iastore, 1)) (hl : lay a = some (.inr (0, n, 1, 0))) (hx : x = nI i) (hi : i < n ∧ n < 2 ^ 31) (kk : J g M d tb (pc + 1) ls st (hs (sX S a i v)) sz kc ks Q) : J g M d tb pc ls (.int v :: .int x :: .ref a :: st) (hs S) sz kc ks Q := by
  subst hx
  refine J_iast hd (hs_at hl) (vp_in_nI hi.1 hi.2) ?_
  rw [nI_clamp (by omega), hup_X hl]
  exact kk
theorem J_bs (hd : decode M.2.1 pc = .ok (.bastore, 1)) (hl : lay a = some (.inr (1, n, 0, 0))) (hx : x = nI i) (hi : i < n ∧ n < 2 ^ 31) (hv : vp_nar .byte v = v) (kk : J g M d tb (pc + 1) ls st (hs (sA S a i v)) sz kc ks Q) : J g M d tb pc ls (.int v :: .int x :: .ref a :: st) (hs S) sz kc ks Q := by
  subst hx
  refine J_bast hd (hs_at hl) (vp_in_nI hi.1 hi.2) ?_
  rw [nI_clamp (by omega), hv, hup_B hl]
  exact kk
theorem J_al {t : Nat} {w : Int32} {s1 s2 : Nat} (hd : decode M.2.1 pc = .ok (.arraylength, 1)) (hl : lay a = some (.inr (t, n, s1, s2))) (ht : t = 0 ∨ t = 1 ∨ t = 3 ∨ t = 4) (hw : Int32.ofNat n = w) (kk : J g M d tb (pc + 1) ls (.int w :: st) (hs S) sz kc ks Q) : J g M d tb pc ls (.ref a :: st) (hs S) sz kc ks Q := by
  rcases ht with rfl | rfl | rfl | rfl
  · cases s1 with
    | zero => exact J_alen (t := 0) hd (by decide) (hs_at hl) hw kk
    | succ s1 => exact J_alen (t := 0) hd (by decide) (hs_at hl) hw kk
  · exact J_alen (t := 1) hd (by decide) (hs_at hl) hw kk
  · exact J_alen (t := 3) hd (by decide) (hs_at hl) hw kk
  · exact J_alen (t := 4) hd (by decide) (hs_at hl) hw kk
theorem J_ar {t s1 s2 : Nat} (hd : decode M.2.1 pc = .ok (.aaload, 1)) (hl : lay a = some (.inr (t + 3, n, s1, s2))) (ht : t = 0 ∨ t = 1) (hx : x = nI i) (hi : i < n ∧ n < 2 ^ 31) (hb : s1 + s2 * i = b) (kk : J g M d tb (pc + 1) ls (.ref b :: st) (hs S) sz kc ks Q) : J g M d tb pc ls (.int x :: .ref a :: st) (hs S) sz kc ks Q := by
  subst hx
  subst hb
  refine J_aald hd (by omega) (hs_at hl) (vp_in_nI hi.1 hi.2) ?_ kk
  rw [nI_clamp (by omega), if_pos hi.1]
/-- a contract that answers v and leaves S' -/
def RT (g : Gp) (N : Mt) (d : Nat) (as : List Value) (S : Sx) (v : Option Value) (S' : Sx) : Prop := ∀ sz, NT g N d 0 0 as (hs S) sz (fun o h sz' => o = .inl v ∧ h = hs S' ∧ sz' = sz)
theorem RT_of_J {N : Mt} {as : List Value} {v : Option Value} {S S' : Sx} (hy : plainName N.1.cls = true ∧ isLaw N = false) (hn : (lsl as).length ≤ N.2.2.1) (k : ∀ sz, J g N d [] 0 (lsl as) [] (hs S) sz 0 0 (fun o h sz' => o = .inl v ∧ h = hs S' ∧ sz' = sz)) : RT g N d as S v S' := fun sz => NT_of_CT (fun E h sz q => by cases q.1) (CT_of_J hy hn (k sz))
variable {N : Mt} {d' : Nat} {as rest : List Value} {S' : Sx} {w : Value}
theorem J_csr (hd : decode M.2.1 pc = .ok (.invokestatic idx, 3)) (hm : InT (.methodLink M.1.cls idx N.1)) (hc : CF N n) (hv : InT (.static N.1)) (hT : RT g N d' as S (some w) S') (hst : st = as.reverse ++ rest) (hn : as.length = n) (hcat : (rest.map fun v => v.category).sum ≤ 8) (hdd : d' + 1 ≤ d) (kr : J g M d tb (pc + 3) ls (w :: rest) (hs S') sz kc ks Q) : J g M d tb pc ls st (hs S) sz kc ks Q := by
  refine J_cs hd hm hc hv (hT sz) hst hn hcat hdd (Nat.zero_le _) (Nat.zero_le _) (fun v h' sz' hq => ?_)
  obtain ⟨h1, rfl, rfl⟩ := hq
  cases h1
  exact kr
theorem J_csv (hd : decode M.2.1 pc = .ok (.invokestatic idx, 3)) (hm : InT (.methodLink M.1.cls idx N.1)) (hc : CF N n) (hv : InT (.static N.1)) (hT : RT g N d' as S none S') (hst : st = as.reverse ++ rest) (hn : as.length = n) (hcat : (rest.map fun v => v.category).sum ≤ 8) (hdd : d' + 1 ≤ d) (kr : J g M d tb (pc + 3) ls rest (hs S') sz kc ks Q) : J g M d tb pc ls st (hs S) sz kc ks Q := by
  refine J_cs hd hm hc hv (hT sz) hst hn hcat hdd (Nat.zero_le _) (Nat.zero_le _) (fun v h' sz' hq => ?_)
  obtain ⟨h1, rfl, rfl⟩ := hq
  cases h1
  exact kr
theorem J_cvr (hd : decode M.2.1 pc = .ok (.invokevirtual idx, 3)) (hm : InT (.methodLink M.1.cls idx N.1)) (hc : CF N n) (hv : CFv N) (hT : RT g N d' (.ref a :: as) S (some w) S') (hst : st = as.reverse ++ .ref a :: rest) (hn : as.length = n) (hcat : (rest.map fun v => v.category).sum ≤ 8) (hdd : d' + 1 ≤ d) (hrv : Rv (hs S) a N.1.cls) (kr : J g M d tb (pc + 3) ls (w :: rest) (hs S') sz kc ks Q) : J g M d tb pc ls st (hs S) sz kc ks Q := by
  refine J_cv hd hm hc hv (hT sz) hst hn hcat hdd (Nat.zero_le _) (Nat.zero_le _) hrv (fun v h' sz' hq => ?_)
  obtain ⟨h1, rfl, rfl⟩ := hq
  cases h1
  exact kr
theorem J_cvv (hd : decode M.2.1 pc = .ok (.invokevirtual idx, 3)) (hm : InT (.methodLink M.1.cls idx N.1)) (hc : CF N n) (hv : CFv N) (hT : RT g N d' (.ref a :: as) S none S') (hst : st = as.reverse ++ .ref a :: rest) (hn : as.length = n) (hcat : (rest.map fun v => v.category).sum ≤ 8) (hdd : d' + 1 ≤ d) (hrv : Rv (hs S) a N.1.cls) (kr : J g M d tb (pc + 3) ls rest (hs S') sz kc ks Q) : J g M d tb pc ls st (hs S) sz kc ks Q := by
  refine J_cv hd hm hc hv (hT sz) hst hn hcat hdd (Nat.zero_le _) (Nat.zero_le _) hrv (fun v h' sz' hq => ?_)
  obtain ⟨h1, rfl, rfl⟩ := hq
  cases h1
  exact kr
theorem J_cnr (hd : decode M.2.1 pc = .ok (.invokevirtual idx, 3)) (hm : InN (.methodLinkNest M.1.cls idx N.1 host)) (hc : CF N n) (hv : CFv N) (hT : RT g N d' (.ref a :: as) S (some w) S') (hst : st = as.reverse ++ .ref a :: rest) (hn : as.length = n) (hcat : (rest.map fun v => v.category).sum ≤ 8) (hdd : d' + 1 ≤ d) (hrv : Rv (hs S) a N.1.cls) (kr : J g M d tb (pc + 3) ls (w :: rest) (hs S') sz kc ks Q) : J g M d tb pc ls st (hs S) sz kc ks Q := by
  refine J_cvN hd hm hc hv (hT sz) hst hn hcat hdd (Nat.zero_le _) (Nat.zero_le _) hrv (fun v h' sz' hq => ?_)
  obtain ⟨h1, rfl, rfl⟩ := hq
  cases h1
  exact kr
theorem J_cnv (hd : decode M.2.1 pc = .ok (.invokevirtual idx, 3)) (hm : InN (.methodLinkNest M.1.cls idx N.1 host)) (hc : CF N n) (hv : CFv N) (hT : RT g N d' (.ref a :: as) S none S') (hst : st = as.reverse ++ .ref a :: rest) (hn : as.length = n) (hcat : (rest.map fun v => v.category).sum ≤ 8) (hdd : d' + 1 ≤ d) (hrv : Rv (hs S) a N.1.cls) (kr : J g M d tb (pc + 3) ls rest (hs S') sz kc ks Q) : J g M d tb pc ls st (hs S) sz kc ks Q := by
  refine J_cvN hd hm hc hv (hT sz) hst hn hcat hdd (Nat.zero_le _) (Nat.zero_le _) hrv (fun v h' sz' hq => ?_)
  obtain ⟨h1, rfl, rfl⟩ := hq
  cases h1
  exact kr
/-- the receiver's class out of the layout -/
def layN (a : Nat) : Option Nat := match lay a with
  | some (.inl (ci, _)) => some ci
  | _ => none
theorem rv_of {C : String} {ci : Nat} {r : vw_C} (hl : layN a = some ci) (hr : cls[ci]? = some r) (hC : r.1 = C) : Rv (hs S) a C := by
  unfold layN at hl
  split at hl
  · next c fds e =>
    cases hl
    exact Or.inl ⟨ci, fvl S a 0 fds, r, hs_at e, hr, hC⟩
  · cases hl
end JS

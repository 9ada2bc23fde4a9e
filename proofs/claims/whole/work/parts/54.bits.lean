/-! ===== bits ===== -/
def bt (x : Int32) (k : Nat) : Bool := x.toBitVec.getLsbD k
theorem bt_ext {x y : Int32} (h : ∀ k, k < 32 → bt x k = bt y k) : x = y := Int32.toBitVec_inj.mp (BitVec.eq_of_getLsbD_eq (fun i hi => h i hi))
theorem bt_or (x y : Int32) (k : Nat) : bt (x ||| y) k = (bt x k || bt y k) := by unfold bt; rw [Int32.toBitVec_or, BitVec.getLsbD_or]
theorem bt_and (x y : Int32) (k : Nat) : bt (x &&& y) k = (bt x k && bt y k) := by unfold bt; rw [Int32.toBitVec_and, BitVec.getLsbD_and]
theorem bt_hi (x : Int32) {k : Nat} (h : 32 ≤ k) : bt x k = false := BitVec.getLsbD_of_ge _ _ h
theorem m1_ones : (-1 : Int32).toBitVec = BitVec.allOnes 32 := by decide
theorem bt_xm (x : Int32) {k : Nat} (h : k < 32) : bt (x ^^^ (-1)) k = !bt x k := by
  unfold bt
  rw [Int32.toBitVec_xor, BitVec.getLsbD_xor, m1_ones, BitVec.getLsbD_allOnes, decide_eq_true h, Bool.xor_true]
theorem bt_0 (k : Nat) : bt 0 k = false := by
  show (0#32).getLsbD k = false
  exact BitVec.getLsbD_zero
theorem sh_tp : ∀ r, r < 32 → ((1 : Int32) <<< (nI r &&& 31)).toBitVec = BitVec.twoPow 32 r := by decide
theorem bt_1 {r : Nat} (hr : r < 32) (k : Nat) : bt ((1 : Int32) <<< (nI r &&& 31)) k = decide (r = k) := by
  unfold bt
  rw [sh_tp r hr, BitVec.getLsbD_twoPow, decide_eq_true hr, Bool.true_and]
theorem sh_sm : ∀ r, r < 32 → ((nI r &&& 31).toBitVec.smod 32).toNat = r := by decide
theorem bt_sh (x : Int32) {r : Nat} (hr : r < 32) : bt (x >>> (nI r &&& 31)) 0 = bt x r := by
  show (x.toBitVec.sshiftRight ((nI r &&& 31).toBitVec.smod 32).toNat).getLsbD 0 = x.toBitVec.getLsbD r
  rw [sh_sm r hr, BitVec.getLsbD_sshiftRight]
  simp [hr]
theorem bt_a1 (x : Int32) : x &&& 1 = if bt x 0 = true then 1 else 0 := by
  apply Int32.toBitVec_inj.mp
  show x.toBitVec &&& 1#32 = _
  rw [BitVec.and_one_eq_setWidth_ofBool_getLsbD]
  unfold bt
  cases x.toBitVec.getLsbD 0 <;> decide
theorem bt_t (x : Int32) {r : Nat} (hr : r < 32) : x >>> (nI r &&& 31) &&& 1 = if bt x r = true then 1 else 0 := by rw [bt_a1, bt_sh x hr]
theorem bit_bt (x : Int32) {r : Nat} (hr : r < 32) : bit x (nI r) = bt x r := by
  unfold bit
  rw [bt_t x hr]
  cases bt x r <;> decide
theorem bt_msk (p : Nat → Bool) : ∀ n, n ≤ 32 → ∀ k, bt (msk p n) k = (decide (k < n) && p k)
  | 0, _, k => bt_0 k
  | n + 1, h, k => by
    show bt (msk p n ||| (if p n = true then 1 <<< (ix n &&& 31) else 0)) k = _
    rw [bt_or, bt_msk p n (by omega) k, ix_nI]
    by_cases e : k = n
    · subst e
      cases q : p k
      · simp [bt_0]
      · simp [bt_1 (show k < 32 by omega)]
    · have e2 : bt (if p n = true then (1 : Int32) <<< (nI n &&& 31) else 0) k = false := by
        cases q : p n
        · simp [bt_0]
        · simp [bt_1 (show n < 32 by omega)]
          omega
      rw [e2, Bool.or_false]
      have : decide (k < n) = decide (k < n + 1) := decide_eq_decide.mpr (by omega)
      rw [this]
theorem bt_full : ∀ n, n < 11 → (1 : Int32) <<< (nI n &&& 31) - 1 = msk (fun _ => true) n := by decide
theorem bt_nI {i : Nat} (k : Nat) (hk : k < 32) : bt (nI i) k = i.testBit k := by
  show (BitVec.ofNat 32 i).getLsbD k = _
  rw [BitVec.getLsbD_ofNat, decide_eq_true hk, Bool.true_and]
/-- a list of different numbers below n is no longer than n -/
theorem nd_len : ∀ (n : Nat) (l : List Nat), l.Nodup → (∀ x, x ∈ l → x < n) → l.length ≤ n
  | 0, l, _, h => by
    cases l with
    | nil => exact Nat.le_refl _
    | cons a t => exact absurd (h a List.mem_cons_self) (Nat.not_lt_zero a)
  | n + 1, l, hn, h => by
    by_cases e : n ∈ l
    · have h1 := nd_len n (l.erase n) (hn.erase n) (fun x hx => by
        have := (List.Nodup.mem_erase_iff hn).mp hx
        have h2 := h x this.2
        have h3 := this.1
        omega)
      have h2 := List.length_erase_of_mem e
      omega
    · have := nd_len n l hn (fun x hx => by
        have h1 := h x hx
        have h2 : x ≠ n := fun z => e (z ▸ hx)
        omega)
      omega

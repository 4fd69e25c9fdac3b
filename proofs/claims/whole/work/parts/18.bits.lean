/-! truth values compared; bits of a small number -/
section EVB
variable {g : ev_G} {X : Bool} {M : ev_M} {d pc : Nat} {ls : List (Option Value)} {st : List Value} {h : List ev_AC} {kc ks : Nat} {Q : ev_O → List ev_AC → Prop}
theorem ev_b_inj {x y : Bool} (h : ev_b x = ev_b y) : x = y := by cases x <;> cases y <;> first | rfl | exact absurd h (by decide)
theorem ev_qeq {x y : Bool} {off : Int} {tgt : Nat} (hd : decode M.2.1 pc = .ok (.if_icmp .eq off, 3)) (ht : (pc : Int) + off = (tgt : Int)) (kt : x = y → ev_E g X M d tgt ls st h kc ks Q) (kf : x ≠ y → ev_E g X M d (pc + 3) ls st h kc ks Q) : ev_E g X M d pc ls (ev_i (ev_b y) :: ev_i (ev_b x) :: st) h kc ks Q := by
  have h1 := ev_b01 x
  have h2 := ev_b01 y
  exact ev_icmp_eq hd ht (by omega) (by omega) (by omega) (by omega) (fun q => kt (ev_b_inj q)) (fun q => kf (fun e => q (by rw [e])))
theorem ev_qne {x y : Bool} {off : Int} {tgt : Nat} (hd : decode M.2.1 pc = .ok (.if_icmp .ne off, 3)) (ht : (pc : Int) + off = (tgt : Int)) (kt : x ≠ y → ev_E g X M d tgt ls st h kc ks Q) (kf : x = y → ev_E g X M d (pc + 3) ls st h kc ks Q) : ev_E g X M d pc ls (ev_i (ev_b y) :: ev_i (ev_b x) :: st) h kc ks Q := by
  have h1 := ev_b01 x
  have h2 := ev_b01 y
  exact ev_icmp_ne hd ht (by omega) (by omega) (by omega) (by omega) (fun q => kt (fun e => q (by rw [e]))) (fun q => kf (ev_b_inj q))
theorem ev_orN (a b : Nat) : Int32.ofInt a ||| Int32.ofInt b = Int32.ofInt ((a ||| b : Nat) : Int) := by
  rw [Int32.ofInt_eq_ofNat, Int32.ofInt_eq_ofNat, Int32.ofInt_eq_ofNat]
  apply Int32.toBitVec_inj.mp
  show BitVec.ofNat 32 a ||| BitVec.ofNat 32 b = BitVec.ofNat 32 (a ||| b)
  rw [BitVec.ofNat_or]
theorem ev_andN (a b : Nat) : Int32.ofInt a &&& Int32.ofInt b = Int32.ofInt ((a &&& b : Nat) : Int) := by
  rw [Int32.ofInt_eq_ofNat, Int32.ofInt_eq_ofNat, Int32.ofInt_eq_ofNat]
  apply Int32.toBitVec_inj.mp
  show BitVec.ofNat 32 a &&& BitVec.ofNat 32 b = BitVec.ofNat 32 (a &&& b)
  rw [BitVec.ofNat_and]
theorem ev_or {a b : Nat} (hd : decode M.2.1 pc = .ok (.ior, 1)) (k : ev_E g X M d (pc + 1) ls (ev_i ((a ||| b : Nat) : Int) :: st) h kc ks Q) : ev_E g X M d pc ls (ev_i (b : Int) :: ev_i (a : Int) :: st) h kc ks Q := ev_ior hd (ev_orN a b) k
theorem ev_and {a b : Nat} (hd : decode M.2.1 pc = .ok (.iand, 1)) (k : ev_E g X M d (pc + 1) ls (ev_i ((a &&& b : Nat) : Int) :: st) h kc ks Q) : ev_E g X M d pc ls (ev_i (b : Int) :: ev_i (a : Int) :: st) h kc ks Q := ev_iand hd (ev_andN a b) k
theorem ev_sh1 : ∀ k : Nat, k < 31 → Int32.ofInt 1 <<< (Int32.ofInt (k : Int) &&& 31) = Int32.ofInt ((2 ^ k : Nat) : Int) := by decide +kernel
theorem ev_shl1 {z : Int} {k : Nat} (hd : decode M.2.1 pc = .ok (.ishl, 1)) (hz : z = (k : Int)) (hk : k < 31) (kk : ev_E g X M d (pc + 1) ls (ev_i ((2 ^ k : Nat) : Int) :: st) h kc ks Q) : ev_E g X M d pc ls (ev_i z :: ev_i 1 :: st) h kc ks Q := by
  subst hz
  exact ev_ishl hd (ev_sh1 k hk) kk
end EVB
theorem ev_bit0 (o k : Nat) : o &&& 2 ^ k = if o.testBit k then 2 ^ k else 0 := by
  apply Nat.eq_of_testBit_eq
  intro i
  rw [Nat.testBit_and, Nat.testBit_two_pow]
  by_cases hi : k = i
  · subst hi
    cases h : o.testBit k <;> simp [Nat.testBit_two_pow_self]
  · cases h : o.testBit k <;> simp [hi, Nat.testBit_two_pow]

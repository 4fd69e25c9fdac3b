/-! further rules -/
section EVQ
variable {g : ev_G} {X : Bool} {M : ev_M} {d pc : Nat} {ls : List (Option Value)} {st : List Value} {h : List ev_AC} {kc ks : Nat} {Q : ev_O → List ev_AC → Prop}
theorem ev_ofN (n : Nat) : Int32.ofInt n = nI n := Int32.ofInt_eq_ofNat
theorem ev_rem {a b : Int} (hd : decode M.2.1 pc = .ok (.irem, 1)) (a1 : 0 ≤ a) (a2 : a < 2147483648) (b1 : 0 < b) (b2 : b < 2147483648) (k : ev_E g X M d (pc + 1) ls (ev_i (a % b) :: st) h kc ks Q) : ev_E g X M d pc ls (ev_i b :: ev_i a :: st) h kc ks Q := by
  obtain ⟨x, rfl⟩ := Int.eq_ofNat_of_zero_le a1
  obtain ⟨y, rfl⟩ := Int.eq_ofNat_of_zero_le (Int.le_of_lt b1)
  refine ev_irem hd ?_ ?_ k
  · rw [ev_ofN]; exact nI_ne0 (by omega) (by omega)
  · rw [ev_ofN, ev_ofN, pk_rem (by omega) (by omega) (by omega), ← ev_ofN]; rfl
theorem ev_div {a b : Int} (hd : decode M.2.1 pc = .ok (.idiv, 1)) (a1 : 0 ≤ a) (a2 : a < 2147483648) (b1 : 0 < b) (b2 : b < 2147483648) (k : ev_E g X M d (pc + 1) ls (ev_i (a / b) :: st) h kc ks Q) : ev_E g X M d pc ls (ev_i b :: ev_i a :: st) h kc ks Q := by
  obtain ⟨x, rfl⟩ := Int.eq_ofNat_of_zero_le a1
  obtain ⟨y, rfl⟩ := Int.eq_ofNat_of_zero_le (Int.le_of_lt b1)
  refine ev_idiv hd ?_ ?_ k
  · rw [ev_ofN]; exact nI_ne0 (by omega) (by omega)
  · rw [ev_ofN, ev_ofN, pk_div (by omega) (by omega) (by omega), ← ev_ofN]; rfl
theorem ev_nI {n : Nat} {z : Int} (hd : decode M.2.1 pc = .ok (.newarray .int, 2)) (hz : z = (n : Int)) (hn : n < 8388608)
    (kk : ev_E g X M d (pc + 2) ls (.ref h.length :: st) (h ++ [ev_ia n (fun _ => 0)]) kc ks Q) : ev_E g X M d pc ls (ev_i z :: st) h (kc + 1) (ks + n) Q := by
  subst hz
  exact ev_newI hd wa_int hn kk
theorem ev_nL {n : Nat} {z : Int} (hd : decode M.2.1 pc = .ok (.newarray .long, 2)) (hz : z = (n : Int)) (hn : n < 8388608)
    (kk : ev_E g X M d (pc + 2) ls (.ref h.length :: st) (h ++ [ev_la n (fun _ => 0)]) kc ks Q) : ev_E g X M d pc ls (ev_i z :: st) h (kc + 1) (ks + n) Q := by
  subst hz
  exact ev_newL hd wa_long hn kk
end EVQ
/-- the first k places of F laid over G -/
def ev_ov (F G : Int → Int) (k : Int) : Int → Int := fun j => if 0 ≤ j ∧ j < k then F j else G j
theorem ev_ov_0 (F G : Int → Int) {k : Int} (h : k ≤ 0) : ev_ov F G k = G := by
  funext j
  exact if_neg (by omega)
theorem ev_ov_s {F G : Int → Int} {k z : Int} (h : 0 ≤ k) (hz : z = F k) : ev_up (ev_ov F G k) k z = ev_ov F G (k + 1) := by
  funext j
  subst hz
  unfold ev_up ev_ov
  by_cases hj : j = k
  · subst hj; rw [if_pos rfl, if_pos (by omega)]
  · rw [if_neg hj]
    by_cases h1 : 0 ≤ j ∧ j < k
    · rw [if_pos h1, if_pos (by omega)]
    · rw [if_neg h1, if_neg (by omega)]
theorem ev_ov_in {F G : Int → Int} {k j : Int} (h0 : 0 ≤ j) (h1 : j < k) : ev_ov F G k j = F j := if_pos ⟨h0, h1⟩
theorem ev_ov_out {F G : Int → Int} {k j : Int} (h : j < 0 ∨ k ≤ j) : ev_ov F G k j = G j := if_neg (by omega)
theorem ev_up_s {F : Int → Int} {k z : Int} : ev_up F k z k = z := if_pos rfl
theorem ev_up_n {F : Int → Int} {k z j : Int} (h : j ≠ k) : ev_up F k z j = F j := if_neg h
theorem ev_nbz {g : ev_G} {z : Int} (h : z = 0 ∨ z = 1) : narrow .boolean (ev_rv g (ev_i z)) = ev_rv g (ev_i z) := by
  rcases h with rfl | rfl
  · show narrow .boolean (.int (Int32.ofInt 0)) = .int (Int32.ofInt 0); decide
  · show narrow .boolean (.int (Int32.ofInt 1)) = .int (Int32.ofInt 1); decide
theorem ev_fbz {g : ev_G} {z : Int} (h : z = 0 ∨ z = 1) : fits .boolean (ev_rv g (ev_i z)) = true := by
  rcases h with rfl | rfl
  · show fits .boolean (.int (Int32.ofInt 0)) = true; decide
  · show fits .boolean (.int (Int32.ofInt 1)) = true; decide

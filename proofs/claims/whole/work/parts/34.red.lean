/-! Reductions -/
/-- rem, dn, le, rp, rm, kd, wa: how many lengths remain, how many steps are done; lengths, places, marks; the steps' kinds and places -/
abbrev RS : Type := Int × Int × (Int → Int) × (Int → Int) × (Int → Int) × (Int → Int) × (Int → Int)
def rdw (rem dn : Int) (le rp rm kd wa : Int → Int) (t : List ev_AC) : List ev_AC :=
  .inr (2, [.ref 1, .ref 8, .ref 9, .ref 10, ev_i rem, ev_i dn, .ref 11, .ref 12]) :: ev_ia 7 le :: ev_ia 6 rp :: ev_ia 6 rm :: ev_ia 6 kd :: ev_ia 6 wa :: t
def rdW (s : RS) (t : List ev_AC) : List ev_AC := rdw s.1 s.2.1 s.2.2.1 s.2.2.2.1 s.2.2.2.2.1 s.2.2.2.2.2.1 s.2.2.2.2.2.2 t
def rd_dl (F : Int → Int) (a k lim : Int) : Int → Int := fun x => if a ≤ x ∧ x < lim then F (x + k) else F x
theorem rd_dl_0 (F : Int → Int) (a k : Int) : rd_dl F a k a = F := by
  funext x
  exact if_neg (by omega)
theorem rd_dl_s {F : Int → Int} {a k i : Int} (h : a ≤ i) (hk : 1 ≤ k) : ev_up (rd_dl F a k i) i (rd_dl F a k i (i + k)) = rd_dl F a k (i + 1) := by
  funext x
  unfold ev_up rd_dl
  by_cases hx : x = i
  · subst hx; rw [if_pos rfl, if_neg (by omega), if_pos (by omega)]
  · rw [if_neg hx]
    by_cases h1 : a ≤ x ∧ x < i
    · rw [if_pos h1, if_pos (by omega)]
    · rw [if_neg h1, if_neg (by omega)]
def rd_plN (le rm : Int → Int) : Nat → Int → Int
  | 0, _ => -1
  | k + 1, i => if le i ≤ le (i - 1) ∧ le i ≤ le (i + 1) ∧ rm (i - 1) ≠ rm i then i else rd_plN le rm k (i + 1)
def rd_pl (r : Int) (le rm : Int → Int) : Int := rd_plN le rm (r - 2).toNat 1
def rd_note (s : RS) (k c : Int) : RS := (s.1, s.2.1 + 1, s.2.2.1, s.2.2.2.1, s.2.2.2.2.1, ev_up s.2.2.2.2.2.1 s.2.1 k, ev_up s.2.2.2.2.2.2 s.2.1 (s.2.2.2.1 c))
def rd_c1 (s : RS) : RS := (s.1 - 1, s.2.1 + 1, rd_dl s.2.2.1 0 1 (s.1 - 1), rd_dl s.2.2.2.1 0 1 5, rd_dl s.2.2.2.2.1 0 1 5, (rd_note s 1 0).2.2.2.2.2.1, (rd_note s 1 0).2.2.2.2.2.2)
def rd_c2 (s : RS) : RS := (s.1 - 1, s.2.1 + 1, s.2.2.1, s.2.2.2.1, s.2.2.2.2.1, (rd_note s 2 (s.1 - 2)).2.2.2.2.2.1, (rd_note s 2 (s.1 - 2)).2.2.2.2.2.2)
def rd_c3 (s : RS) (m : Int) : RS := (s.1 - 2, s.2.1 + 1, rd_dl (ev_up s.2.2.1 (m - 1) (s.2.2.1 (m - 1) - s.2.2.1 m + s.2.2.1 (m + 1))) m 2 (s.1 - 2), rd_dl s.2.2.2.1 (m - 1) 2 4, rd_dl s.2.2.2.2.1 (m - 1) 2 4, (rd_note s 3 (m - 1)).2.2.2.2.2.1, (rd_note s 3 (m - 1)).2.2.2.2.2.2)
def rd_step (s : RS) : Option RS :=
  if s.2.2.1 0 ≤ s.2.2.1 1 then some (rd_c1 s) else if s.2.2.1 (s.1 - 1) ≤ s.2.2.1 (s.1 - 2) then some (rd_c2 s)
  else if rd_pl s.1 s.2.2.1 s.2.2.2.2.1 = -1 then none else some (rd_c3 s (rd_pl s.1 s.2.2.1 s.2.2.2.2.1))
def rd_iter : Nat → RS → RS
  | 0, s => s
  | k + 1, s => if 1 < s.1 then (match rd_step s with | some s' => rd_iter k s' | none => s) else s
def rd_M : Nat → Int
  | 0 => 60
  | i + 1 => 2 * rd_M i
theorem rd_M_bd : ∀ i : Nat, i ≤ 6 → 60 ≤ rd_M i ∧ rd_M i ≤ 3840 := by decide
theorem rd_plN_spec {le rm : Int → Int} : ∀ (k : Nat) (i : Int), rd_plN le rm k i = -1 ∨ (i ≤ rd_plN le rm k i ∧ rd_plN le rm k i < i + k ∧ le (rd_plN le rm k i) ≤ le (rd_plN le rm k i - 1) ∧ le (rd_plN le rm k i) ≤ le (rd_plN le rm k i + 1))
  | 0, _ => Or.inl rfl
  | k + 1, i => by
    unfold rd_plN
    by_cases h : le i ≤ le (i - 1) ∧ le i ≤ le (i + 1) ∧ rm (i - 1) ≠ rm i
    · rw [if_pos h]; exact Or.inr ⟨Int.le_refl _, by omega, h.1, h.2.1⟩
    · rw [if_neg h]
      rcases rd_plN_spec (le := le) (rm := rm) k (i + 1) with q | q
      · exact Or.inl q
      · exact Or.inr ⟨by omega, by omega, q.2.2.1, q.2.2.2⟩
def rd_inv (i : Nat) (s : RS) : Prop := 1 ≤ s.1 ∧ s.1 ≤ 7 ∧ 0 ≤ s.2.1 ∧ s.2.1 + s.1 ≤ 7 ∧ (∀ j, 0 ≤ j → j < s.1 → 0 ≤ s.2.2.1 j ∧ s.2.2.1 j ≤ rd_M i) ∧ ∀ j, 0 ≤ j → j < s.1 - 1 → 0 ≤ s.2.2.2.2.1 j ∧ s.2.2.2.2.1 j ≤ 2
theorem rd_inv_s {i : Nat} {s s' : RS} (hi : i ≤ 6) (h : rd_inv i s) (h1 : 1 < s.1) (e : rd_step s = some s') : rd_inv (i + 1) s' := by
  obtain ⟨a1, a2, a3, a4, a5, a6⟩ := h
  have hM := rd_M_bd i hi
  have hM2 : rd_M (i + 1) = 2 * rd_M i := rfl
  unfold rd_step at e
  split at e
  · cases e
    refine ⟨by show 1 ≤ s.1 - 1; omega, by show s.1 - 1 ≤ 7; omega, by show 0 ≤ s.2.1 + 1; omega, by show s.2.1 + 1 + (s.1 - 1) ≤ 7; omega, fun j j0 j1 => ?_, fun j j0 j1 => ?_⟩
    · have j1 : j < s.1 - 1 := j1
      show 0 ≤ rd_dl s.2.2.1 0 1 (s.1 - 1) j ∧ rd_dl s.2.2.1 0 1 (s.1 - 1) j ≤ _
      rw [rd_dl, if_pos (by omega)]
      have := a5 (j + 1) (by omega) (by omega); omega
    · have j1 : j < s.1 - 1 - 1 := j1
      show 0 ≤ rd_dl s.2.2.2.2.1 0 1 5 j ∧ rd_dl s.2.2.2.2.1 0 1 5 j ≤ _
      rw [rd_dl, if_pos (by omega)]
      exact a6 (j + 1) (by omega) (by omega)
  · split at e
    · cases e
      refine ⟨by show 1 ≤ s.1 - 1; omega, by show s.1 - 1 ≤ 7; omega, by show 0 ≤ s.2.1 + 1; omega, by show s.2.1 + 1 + (s.1 - 1) ≤ 7; omega, fun j j0 j1 => ?_, fun j j0 j1 => ?_⟩
      · have j1 : j < s.1 - 1 := j1
        have := a5 j j0 (by omega)
        show 0 ≤ s.2.2.1 j ∧ s.2.2.1 j ≤ _
        omega
      · have j1 : j < s.1 - 1 - 1 := j1
        exact a6 j j0 (by omega)
    · split at e
      · cases e
      · rename_i hpl
        cases e
        have hs := rd_plN_spec (le := s.2.2.1) (rm := s.2.2.2.2.1) (s.1 - 2).toNat 1
        have hs := hs.resolve_left hpl
        have hm1 : 1 ≤ rd_pl s.1 s.2.2.1 s.2.2.2.2.1 := hs.1
        have hm2 : rd_pl s.1 s.2.2.1 s.2.2.2.2.1 < 1 + ((s.1 - 2).toNat : Int) := hs.2.1
        have hm3 : s.2.2.1 (rd_pl s.1 s.2.2.1 s.2.2.2.2.1) ≤ s.2.2.1 (rd_pl s.1 s.2.2.1 s.2.2.2.2.1 - 1) := hs.2.2.1
        have hm4 : s.2.2.1 (rd_pl s.1 s.2.2.1 s.2.2.2.2.1) ≤ s.2.2.1 (rd_pl s.1 s.2.2.1 s.2.2.2.2.1 + 1) := hs.2.2.2
        generalize rd_pl s.1 s.2.2.1 s.2.2.2.2.1 = m at *
        refine ⟨by show 1 ≤ s.1 - 2; omega, by show s.1 - 2 ≤ 7; omega, by show 0 ≤ s.2.1 + 1; omega, by show s.2.1 + 1 + (s.1 - 2) ≤ 7; omega, fun j j0 j1 => ?_, fun j j0 j1 => ?_⟩
        · have j1 : j < s.1 - 2 := j1
          show 0 ≤ rd_dl (ev_up s.2.2.1 (m - 1) (s.2.2.1 (m - 1) - s.2.2.1 m + s.2.2.1 (m + 1))) m 2 (s.1 - 2) j ∧ rd_dl (ev_up s.2.2.1 (m - 1) (s.2.2.1 (m - 1) - s.2.2.1 m + s.2.2.1 (m + 1))) m 2 (s.1 - 2) j ≤ _
          have b1 := a5 (m - 1) (by omega) (by omega)
          have b2 := a5 m (by omega) (by omega)
          have b3 := a5 (m + 1) (by omega) (by omega)
          unfold rd_dl ev_up
          by_cases hj : m ≤ j ∧ j < s.1 - 2
          · rw [if_pos hj, if_neg (by omega)]
            have := a5 (j + 2) (by omega) (by omega); omega
          · rw [if_neg hj]
            by_cases hjm : j = m - 1
            · rw [if_pos hjm]; omega
            · rw [if_neg hjm]
              have := a5 j j0 (by omega); omega
        · have j1 : j < s.1 - 2 - 1 := j1
          show 0 ≤ rd_dl s.2.2.2.2.1 (m - 1) 2 4 j ∧ rd_dl s.2.2.2.2.1 (m - 1) 2 4 j ≤ _
          unfold rd_dl
          by_cases hj : m - 1 ≤ j ∧ j < 4
          · rw [if_pos hj]; exact a6 (j + 2) (by omega) (by omega)
          · rw [if_neg hj]; exact a6 j j0 (by omega)
section RD
variable {g : ev_G} {d : Nat} {L n : Int} {tn : Bool} {P K B lo hi : Int → Int} {c0 : ev_AC} {t : List ev_AC} {rem dn : Int} {le rp rm kd wa : Int → Int}
theorem ct_note {k c : Int} (d0 : 0 ≤ dn) (d1 : dn ≤ 5) (c0' : 0 ≤ c) (c1 : c ≤ 5) :
    ev_C g mR_note d [.ref 7, ev_i k, ev_i c] (pw L n tn P K B lo hi c0 (rdw rem dn le rp rm kd wa t)) 0 0 (ev_V none (pw L n tn P K B lo hi c0 (rdw rem (dn + 1) le rp rm (ev_up kd dn k) (ev_up wa dn (rp c)) t))) := by
  refine ev_ofE (by decide +kernel) rfl (Nat.le_of_ble_eq_true rfl) rfl rfl ?_
  refine ev_aload_n dR_note_0 rfl ?_
  refine ev_get dR_note_1 fl_R_25 rfl rfl ?_
  refine ev_aload_n dR_note_4 rfl ?_
  refine ev_get dR_note_5 fl_R_42 rfl rfl ?_
  refine ev_iload_n dR_note_8 rfl ?_
  refine ev_iast dR_note_9 rfl (by omega) (by omega) (by decide) ?_
  refine ev_aload_n dR_note_10 rfl ?_
  refine ev_get dR_note_11 fl_R_28 rfl rfl ?_
  refine ev_aload_n dR_note_14 rfl ?_
  refine ev_get dR_note_15 fl_R_42 rfl rfl ?_
  refine ev_aload_n dR_note_18 rfl ?_
  refine ev_get dR_note_19 fl_R_19 rfl rfl ?_
  refine ev_iload_n dR_note_22 rfl ?_
  refine ev_iald dR_note_23 rfl (by omega) (by omega) (by decide) ?_
  refine ev_iast dR_note_24 rfl (by omega) (by omega) (by decide) ?_
  refine ev_aload_n dR_note_25 rfl ?_
  refine ev_dup dR_note_26 rfl ?_
  refine ev_get dR_note_27 fl_R_42 rfl rfl ?_
  refine ev_iconst dR_note_30 ?_
  refine ev_iadd dR_note_31 ?_
  refine ev_put dR_note_32 fp_R_42 (fun q => by cases q) rfl (Nat.le_of_ble_eq_true rfl) rfl rfl ?_
  refine ev_return dR_note_35 rfl ?_
  exact ⟨rfl, rfl⟩
theorem ct_rmLen {a k : Int} (a0 : 0 ≤ a) (k1 : 1 ≤ k) (hk : k ≤ 2) (ha : a ≤ rem - k) (hr : rem ≤ 7) :
    ev_C g mR_removeLengths d [.ref 7, ev_i a, ev_i k] (pw L n tn P K B lo hi c0 (rdw rem dn le rp rm kd wa t)) 0 0 (ev_V none (pw L n tn P K B lo hi c0 (rdw (rem - k) dn (rd_dl le a k (rem - k)) rp rm kd wa t))) := by
  refine ev_ofE (by decide +kernel) rfl (Nat.le_of_ble_eq_true rfl) rfl rfl ?_
  refine ev_aload_n dR_removeLengths_0 rfl ?_
  refine ev_dup dR_removeLengths_1 rfl ?_
  refine ev_get dR_removeLengths_2 fl_R_34 rfl rfl ?_
  refine ev_iload_n dR_removeLengths_5 rfl ?_
  refine ev_isub dR_removeLengths_6 ?_
  refine ev_put dR_removeLengths_7 fp_R_34 (fun q => by cases q) rfl (Nat.le_of_ble_eq_true rfl) rfl rfl ?_
  refine ev_iload_n dR_removeLengths_10 rfl ?_
  refine ev_istore_n dR_removeLengths_11 (Nat.le_of_ble_eq_true rfl) ?_
  have loop : ∀ (j : Nat) (i : Int), i + j = rem - k → a ≤ i → ev_E g false mR_removeLengths d 12 [some (.ref 7), some (ev_i a), some (ev_i k), some (ev_i i)] [] (pw L n tn P K B lo hi c0 (rdw (rem - k) dn (rd_dl le a k i) rp rm kd wa t)) 0 0 (ev_V none (pw L n tn P K B lo hi c0 (rdw (rem - k) dn (rd_dl le a k (rem - k)) rp rm kd wa t))) := by
    intro j
    induction j with
    | zero =>
      intro i hj hi1
      have e : i = rem - k := by omega
      subst e
      refine ev_iload_n dR_removeLengths_12 rfl ?_
      refine ev_aload_n dR_removeLengths_13 rfl ?_
      refine ev_get dR_removeLengths_14 fl_R_34 rfl rfl ?_
      refine ev_icmp_ge (tgt := 40) dR_removeLengths_17 rfl (by omega) (by omega) (by omega) (by omega) (fun hb => ?_) (fun hb => ?_)
      · refine ev_return dR_removeLengths_40 rfl ?_
        exact ⟨rfl, rfl⟩
      · omega
    | succ j ih =>
      intro i hj hi1
      refine ev_iload_n dR_removeLengths_12 rfl ?_
      refine ev_aload_n dR_removeLengths_13 rfl ?_
      refine ev_get dR_removeLengths_14 fl_R_34 rfl rfl ?_
      refine ev_icmp_ge (tgt := 40) dR_removeLengths_17 rfl (by omega) (by omega) (by omega) (by omega) (fun hb => ?_) (fun hb => ?_)
      · omega
      · refine ev_aload_n dR_removeLengths_20 rfl ?_
        refine ev_get dR_removeLengths_21 fl_R_15 rfl rfl ?_
        refine ev_iload_n dR_removeLengths_24 rfl ?_
        refine ev_aload_n dR_removeLengths_25 rfl ?_
        refine ev_get dR_removeLengths_26 fl_R_15 rfl rfl ?_
        refine ev_iload_n dR_removeLengths_29 rfl ?_
        refine ev_iload_n dR_removeLengths_30 rfl ?_
        refine ev_iadd dR_removeLengths_31 ?_
        refine ev_iald dR_removeLengths_32 rfl (by omega) (by omega) (by decide) ?_
        refine ev_iast dR_removeLengths_33 rfl (by omega) (by omega) (by decide) ?_
        refine ev_iinc dR_removeLengths_34 rfl ?_
        refine ev_goto (tgt := 12) dR_removeLengths_37 rfl ?_
        rw [rd_dl_s hi1 k1]
        exact ih (i + 1) (by omega) (by omega)
  have := loop (rem - k - a).toNat a (by omega) (by omega)
  rw [rd_dl_0] at this
  exact this
theorem ct_rmCr {a k : Int} (a0 : 0 ≤ a) (k1 : 1 ≤ k) (hk : k ≤ 2) (ha : a ≤ 6 - k) :
    ev_C g mR_removeCreases d [.ref 7, ev_i a, ev_i k] (pw L n tn P K B lo hi c0 (rdw rem dn le rp rm kd wa t)) 0 0 (ev_V none (pw L n tn P K B lo hi c0 (rdw rem dn le (rd_dl rp a k (6 - k)) (rd_dl rm a k (6 - k)) kd wa t))) := by
  refine ev_ofE (by decide +kernel) rfl (Nat.le_of_ble_eq_true rfl) rfl rfl ?_
  refine ev_iload_n dR_removeCreases_0 rfl ?_
  refine ev_istore_n dR_removeCreases_1 (Nat.le_of_ble_eq_true rfl) ?_
  have loop : ∀ (j : Nat) (i : Int), i + j = 6 - k → a ≤ i → ev_E g false mR_removeCreases d 2 [some (.ref 7), some (ev_i a), some (ev_i k), some (ev_i i)] [] (pw L n tn P K B lo hi c0 (rdw rem dn le (rd_dl rp a k i) (rd_dl rm a k i) kd wa t)) 0 0 (ev_V none (pw L n tn P K B lo hi c0 (rdw rem dn le (rd_dl rp a k (6 - k)) (rd_dl rm a k (6 - k)) kd wa t))) := by
    intro j
    induction j with
    | zero =>
      intro i hj hi1
      have e : i = 6 - k := by omega
      subst e
      refine ev_iload_n dR_removeCreases_2 rfl ?_
      refine ev_iload_n dR_removeCreases_3 rfl ?_
      refine ev_iadd dR_removeCreases_4 ?_
      refine ev_bipush dR_removeCreases_5 rfl ?_
      refine ev_icmp_ge (tgt := 44) dR_removeCreases_7 rfl (by omega) (by omega) (by omega) (by omega) (fun hb => ?_) (fun hb => ?_)
      · refine ev_return dR_removeCreases_44 rfl ?_
        exact ⟨rfl, rfl⟩
      · omega
    | succ j ih =>
      intro i hj hi1
      refine ev_iload_n dR_removeCreases_2 rfl ?_
      refine ev_iload_n dR_removeCreases_3 rfl ?_
      refine ev_iadd dR_removeCreases_4 ?_
      refine ev_bipush dR_removeCreases_5 rfl ?_
      refine ev_icmp_ge (tgt := 44) dR_removeCreases_7 rfl (by omega) (by omega) (by omega) (by omega) (fun hb => ?_) (fun hb => ?_)
      · omega
      · refine ev_aload_n dR_removeCreases_10 rfl ?_
        refine ev_get dR_removeCreases_11 fl_R_19 rfl rfl ?_
        refine ev_iload_n dR_removeCreases_14 rfl ?_
        refine ev_aload_n dR_removeCreases_15 rfl ?_
        refine ev_get dR_removeCreases_16 fl_R_19 rfl rfl ?_
        refine ev_iload_n dR_removeCreases_19 rfl ?_
        refine ev_iload_n dR_removeCreases_20 rfl ?_
        refine ev_iadd dR_removeCreases_21 ?_
        refine ev_iald dR_removeCreases_22 rfl (by omega) (by omega) (by decide) ?_
        refine ev_iast dR_removeCreases_23 rfl (by omega) (by omega) (by decide) ?_
        refine ev_aload_n dR_removeCreases_24 rfl ?_
        refine ev_get dR_removeCreases_25 fl_R_22 rfl rfl ?_
        refine ev_iload_n dR_removeCreases_28 rfl ?_
        refine ev_aload_n dR_removeCreases_29 rfl ?_
        refine ev_get dR_removeCreases_30 fl_R_22 rfl rfl ?_
        refine ev_iload_n dR_removeCreases_33 rfl ?_
        refine ev_iload_n dR_removeCreases_34 rfl ?_
        refine ev_iadd dR_removeCreases_35 ?_
        refine ev_iald dR_removeCreases_36 rfl (by omega) (by omega) (by decide) ?_
        refine ev_iast dR_removeCreases_37 rfl (by omega) (by omega) (by decide) ?_
        refine ev_iinc dR_removeCreases_38 rfl ?_
        refine ev_goto (tgt := 2) dR_removeCreases_41 rfl ?_
        rw [rd_dl_s hi1 k1, rd_dl_s hi1 k1]
        exact ih (i + 1) (by omega) (by omega)
  have := loop (6 - k - a).toNat a (by omega) (by omega)
  rw [rd_dl_0, rd_dl_0] at this
  exact this
theorem ct_pleat (r2 : 2 ≤ rem) (r7 : rem ≤ 7) (hl : ∀ j, 0 ≤ j → j < rem → 0 ≤ le j ∧ le j ≤ 3840) (hm : ∀ j, 0 ≤ j → j < rem - 1 → 0 ≤ rm j ∧ rm j ≤ 2) :
    ev_C g mR_leftmostPleat d [.ref 7] (pw L n tn P K B lo hi c0 (rdw rem dn le rp rm kd wa t)) 0 0 (ev_V (some (ev_i (rd_pl rem le rm))) (pw L n tn P K B lo hi c0 (rdw rem dn le rp rm kd wa t))) := by
  refine ev_ofE (by decide +kernel) rfl (Nat.le_of_ble_eq_true rfl) rfl rfl ?_
  refine ev_iconst dR_leftmostPleat_0 ?_
  refine ev_istore_n dR_leftmostPleat_1 (Nat.le_of_ble_eq_true rfl) ?_
  have loop : ∀ (k : Nat) (i : Int), i + k = rem - 1 → 1 ≤ i → ev_E g false mR_leftmostPleat d 2 [some (.ref 7), some (ev_i i)] [] (pw L n tn P K B lo hi c0 (rdw rem dn le rp rm kd wa t)) 0 0 (ev_V (some (ev_i (rd_plN le rm k i))) (pw L n tn P K B lo hi c0 (rdw rem dn le rp rm kd wa t))) := by
    intro k
    induction k with
    | zero =>
      intro i hk hi1
      refine ev_iload_n dR_leftmostPleat_2 rfl ?_
      refine ev_aload_n dR_leftmostPleat_3 rfl ?_
      refine ev_get dR_leftmostPleat_4 fl_R_34 rfl rfl ?_
      refine ev_iconst dR_leftmostPleat_7 ?_
      refine ev_isub dR_leftmostPleat_8 ?_
      refine ev_icmp_ge (tgt := 71) dR_leftmostPleat_9 rfl (by omega) (by omega) (by omega) (by omega) (fun hb => ?_) (fun hb => ?_)
      · refine ev_iconst dR_leftmostPleat_71 ?_
        refine ev_ireturn dR_leftmostPleat_72 rfl ?_
        exact ⟨rfl, rfl⟩
      · omega
    | succ k ih =>
      intro i hk hi1
      have l1 := hl i (by omega) (by omega)
      have l2 := hl (i - 1) (by omega) (by omega)
      have l3 := hl (i + 1) (by omega) (by omega)
      have m1 := hm (i - 1) (by omega) (by omega)
      have m2 := hm i (by omega) (by omega)
      have next := ih (i + 1) (by omega) (by omega)
      refine ev_iload_n dR_leftmostPleat_2 rfl ?_
      refine ev_aload_n dR_leftmostPleat_3 rfl ?_
      refine ev_get dR_leftmostPleat_4 fl_R_34 rfl rfl ?_
      refine ev_iconst dR_leftmostPleat_7 ?_
      refine ev_isub dR_leftmostPleat_8 ?_
      refine ev_icmp_ge (tgt := 71) dR_leftmostPleat_9 rfl (by omega) (by omega) (by omega) (by omega) (fun hb => ?_) (fun hb => ?_)
      · omega
      · refine ev_aload_n dR_leftmostPleat_12 rfl ?_
        refine ev_get dR_leftmostPleat_13 fl_R_15 rfl rfl ?_
        refine ev_iload_n dR_leftmostPleat_16 rfl ?_
        refine ev_iald dR_leftmostPleat_17 rfl (by omega) (by omega) (by decide) ?_
        refine ev_aload_n dR_leftmostPleat_18 rfl ?_
        refine ev_get dR_leftmostPleat_19 fl_R_15 rfl rfl ?_
        refine ev_iload_n dR_leftmostPleat_22 rfl ?_
        refine ev_iconst dR_leftmostPleat_23 ?_
        refine ev_isub dR_leftmostPleat_24 ?_
        refine ev_iald dR_leftmostPleat_25 rfl (by omega) (by omega) (by decide) ?_
        refine ev_icmp_gt (tgt := 65) dR_leftmostPleat_26 rfl (by omega) (by omega) (by omega) (by omega) (fun hb2 => ?_) (fun hb2 => ?_)
        · refine ev_iinc dR_leftmostPleat_65 rfl ?_
          refine ev_goto (tgt := 2) dR_leftmostPleat_68 rfl ?_
          rw [rd_plN, if_neg (by omega)]
          exact next
        · refine ev_aload_n dR_leftmostPleat_29 rfl ?_
          refine ev_get dR_leftmostPleat_30 fl_R_15 rfl rfl ?_
          refine ev_iload_n dR_leftmostPleat_33 rfl ?_
          refine ev_iald dR_leftmostPleat_34 rfl (by omega) (by omega) (by decide) ?_
          refine ev_aload_n dR_leftmostPleat_35 rfl ?_
          refine ev_get dR_leftmostPleat_36 fl_R_15 rfl rfl ?_
          refine ev_iload_n dR_leftmostPleat_39 rfl ?_
          refine ev_iconst dR_leftmostPleat_40 ?_
          refine ev_iadd dR_leftmostPleat_41 ?_
          refine ev_iald dR_leftmostPleat_42 rfl (by omega) (by omega) (by decide) ?_
          refine ev_icmp_gt (tgt := 65) dR_leftmostPleat_43 rfl (by omega) (by omega) (by omega) (by omega) (fun hb3 => ?_) (fun hb3 => ?_)
          · refine ev_iinc dR_leftmostPleat_65 rfl ?_
            refine ev_goto (tgt := 2) dR_leftmostPleat_68 rfl ?_
            rw [rd_plN, if_neg (by omega)]
            exact next
          · refine ev_aload_n dR_leftmostPleat_46 rfl ?_
            refine ev_get dR_leftmostPleat_47 fl_R_22 rfl rfl ?_
            refine ev_iload_n dR_leftmostPleat_50 rfl ?_
            refine ev_iconst dR_leftmostPleat_51 ?_
            refine ev_isub dR_leftmostPleat_52 ?_
            refine ev_iald dR_leftmostPleat_53 rfl (by omega) (by omega) (by decide) ?_
            refine ev_aload_n dR_leftmostPleat_54 rfl ?_
            refine ev_get dR_leftmostPleat_55 fl_R_22 rfl rfl ?_
            refine ev_iload_n dR_leftmostPleat_58 rfl ?_
            refine ev_iald dR_leftmostPleat_59 rfl (by omega) (by omega) (by decide) ?_
            refine ev_icmp_eq (tgt := 65) dR_leftmostPleat_60 rfl (by omega) (by omega) (by omega) (by omega) (fun hb4 => ?_) (fun hb4 => ?_)
            · refine ev_iinc dR_leftmostPleat_65 rfl ?_
              refine ev_goto (tgt := 2) dR_leftmostPleat_68 rfl ?_
              rw [rd_plN, if_neg (by omega)]
              exact next
            · refine ev_iload_n dR_leftmostPleat_63 rfl ?_
              refine ev_ireturn dR_leftmostPleat_64 rfl ?_
              exact ⟨by rw [rd_plN, if_pos ⟨hb2, hb3, hb4⟩], rfl⟩
  exact loop (rem - 2).toNat 1 (by omega) (by omega)
theorem ct_flatten {m : Int} (m1 : 1 ≤ m) (m2 : m ≤ rem - 2) (r7 : rem ≤ 7) :
    ev_C g mR_flatten (d + 1) [.ref 7, ev_i m] (pw L n tn P K B lo hi c0 (rdw rem dn le rp rm kd wa t)) 0 0
      (ev_V none (pw L n tn P K B lo hi c0 (rdw (rem - 2) dn (rd_dl (ev_up le (m - 1) (le (m - 1) - le m + le (m + 1))) m 2 (rem - 2)) (rd_dl rp (m - 1) 2 4) (rd_dl rm (m - 1) 2 4) kd wa t))) := by
  refine ev_ofE (by decide +kernel) rfl (Nat.le_of_ble_eq_true rfl) rfl rfl ?_
  refine ev_aload_n dR_flatten_0 rfl ?_
  refine ev_get dR_flatten_1 fl_R_15 rfl rfl ?_
  refine ev_iload_n dR_flatten_4 rfl ?_
  refine ev_iconst dR_flatten_5 ?_
  refine ev_isub dR_flatten_6 ?_
  refine ev_aload_n dR_flatten_7 rfl ?_
  refine ev_get dR_flatten_8 fl_R_15 rfl rfl ?_
  refine ev_iload_n dR_flatten_11 rfl ?_
  refine ev_iconst dR_flatten_12 ?_
  refine ev_isub dR_flatten_13 ?_
  refine ev_iald dR_flatten_14 rfl (by omega) (by omega) (by decide) ?_
  refine ev_aload_n dR_flatten_15 rfl ?_
  refine ev_get dR_flatten_16 fl_R_15 rfl rfl ?_
  refine ev_iload_n dR_flatten_19 rfl ?_
  refine ev_iald dR_flatten_20 rfl (by omega) (by omega) (by decide) ?_
  refine ev_isub dR_flatten_21 ?_
  refine ev_aload_n dR_flatten_22 rfl ?_
  refine ev_get dR_flatten_23 fl_R_15 rfl rfl ?_
  refine ev_iload_n dR_flatten_26 rfl ?_
  refine ev_iconst dR_flatten_27 ?_
  refine ev_iadd dR_flatten_28 ?_
  refine ev_iald dR_flatten_29 rfl (by omega) (by omega) (by decide) ?_
  refine ev_iadd dR_flatten_30 ?_
  refine ev_iast dR_flatten_31 rfl (by omega) (by omega) (by decide) ?_
  refine ev_aload_n dR_flatten_32 rfl ?_
  refine ev_iload_n dR_flatten_33 rfl ?_
  refine ev_iconst dR_flatten_34 ?_
  refine ev_isub dR_flatten_35 ?_
  refine ev_iconst dR_flatten_36 ?_
  refine ev_cVv dR_flatten_37 cv_R_69 (ct_rmCr (le := ev_up le (m - 1) (le (m - 1) - le m + le (m + 1))) (by omega) (by decide) (by decide) (by omega)) rfl rfl rfl (Nat.le_of_ble_eq_true rfl) (Nat.le_of_ble_eq_true rfl) (Nat.le_of_ble_eq_true rfl) ?_
  refine ev_aload_n dR_flatten_40 rfl ?_
  refine ev_iload_n dR_flatten_41 rfl ?_
  refine ev_iconst dR_flatten_42 ?_
  refine ev_cVv dR_flatten_43 cv_R_66 (ct_rmLen (by omega) (by decide) (by decide) (by omega) r7) rfl rfl rfl (Nat.le_of_ble_eq_true rfl) (Nat.le_of_ble_eq_true rfl) (Nat.le_of_ble_eq_true rfl) ?_
  refine ev_return dR_flatten_46 rfl ?_
  exact ⟨rfl, rfl⟩
theorem ct_once {i : Nat} (hi6 : i ≤ 6) (r2 : 2 ≤ rem) (hv : rd_inv i (rem, dn, le, rp, rm, kd, wa)) :
    ev_C g mR_reduceOnce (d + 2) [.ref 7] (pw L n tn P K B lo hi c0 (rdw rem dn le rp rm kd wa t)) 0 0
      (ev_V (some (ev_i (ev_b (rd_step (rem, dn, le, rp, rm, kd, wa)).isSome))) (pw L n tn P K B lo hi c0 (rdW ((rd_step (rem, dn, le, rp, rm, kd, wa)).getD (rem, dn, le, rp, rm, kd, wa)) t))) := by
  obtain ⟨v1, v2, v3, v4, v5, v6⟩ := hv
  have v1 : 1 ≤ rem := v1
  have v2 : rem ≤ 7 := v2
  have v3 : 0 ≤ dn := v3
  have v4 : dn + rem ≤ 7 := v4
  have v5 : ∀ j, 0 ≤ j → j < rem → 0 ≤ le j ∧ le j ≤ rd_M i := v5
  have v6 : ∀ j, 0 ≤ j → j < rem - 1 → 0 ≤ rm j ∧ rm j ≤ 2 := v6
  have hM := rd_M_bd i hi6
  have l0 := v5 0 (by omega) (by omega)
  have l1 := v5 1 (by omega) (by omega)
  have l2 := v5 (rem - 1) (by omega) (by omega)
  have l3 := v5 (rem - 2) (by omega) (by omega)
  refine ev_ofE (by decide +kernel) rfl (Nat.le_of_ble_eq_true rfl) rfl rfl ?_
  refine ev_aload_n dR_reduceOnce_0 rfl ?_
  refine ev_get dR_reduceOnce_1 fl_R_15 rfl rfl ?_
  refine ev_iconst dR_reduceOnce_4 ?_
  refine ev_iald dR_reduceOnce_5 rfl (by omega) (by omega) (by decide) ?_
  refine ev_aload_n dR_reduceOnce_6 rfl ?_
  refine ev_get dR_reduceOnce_7 fl_R_15 rfl rfl ?_
  refine ev_iconst dR_reduceOnce_10 ?_
  refine ev_iald dR_reduceOnce_11 rfl (by omega) (by omega) (by decide) ?_
  refine ev_icmp_gt (tgt := 35) dR_reduceOnce_12 rfl (by omega) (by omega) (by omega) (by omega) (fun hb => ?_) (fun hb => ?_)
  · refine ev_aload_n dR_reduceOnce_35 rfl ?_
    refine ev_get dR_reduceOnce_36 fl_R_15 rfl rfl ?_
    refine ev_aload_n dR_reduceOnce_39 rfl ?_
    refine ev_get dR_reduceOnce_40 fl_R_34 rfl rfl ?_
    refine ev_iconst dR_reduceOnce_43 ?_
    refine ev_isub dR_reduceOnce_44 ?_
    refine ev_iald dR_reduceOnce_45 rfl (by omega) (by omega) (by decide) ?_
    refine ev_aload_n dR_reduceOnce_46 rfl ?_
    refine ev_get dR_reduceOnce_47 fl_R_15 rfl rfl ?_
    refine ev_aload_n dR_reduceOnce_50 rfl ?_
    refine ev_get dR_reduceOnce_51 fl_R_34 rfl rfl ?_
    refine ev_iconst dR_reduceOnce_54 ?_
    refine ev_isub dR_reduceOnce_55 ?_
    refine ev_iald dR_reduceOnce_56 rfl (by omega) (by omega) (by decide) ?_
    refine ev_icmp_gt (tgt := 83) dR_reduceOnce_57 rfl (by omega) (by omega) (by omega) (by omega) (fun hb2 => ?_) (fun hb2 => ?_)
    · refine ev_aload_n dR_reduceOnce_83 rfl ?_
      refine ev_cV dR_reduceOnce_84 cv_R_72 (ct_pleat r2 v2 (fun j a b => by have := v5 j a b; omega) v6) rfl rfl rfl (Nat.le_of_ble_eq_true rfl) (Nat.le_of_ble_eq_true rfl) (Nat.le_of_ble_eq_true rfl) ?_
      refine ev_istore_n dR_reduceOnce_87 (Nat.le_of_ble_eq_true rfl) ?_
      refine ev_iload_n dR_reduceOnce_88 rfl ?_
      refine ev_iconst dR_reduceOnce_89 ?_
      have hs := rd_plN_spec (le := le) (rm := rm) (rem - 2).toNat 1
      have hpe : rd_plN le rm (rem - 2).toNat 1 = rd_pl rem le rm := rfl
      rw [hpe] at hs
      refine ev_icmp_ne (tgt := 95) dR_reduceOnce_90 rfl (by omega) (by omega) (by omega) (by omega) (fun hb3 => ?_) (fun hb3 => ?_)
      · have hs := hs.resolve_left hb3
        have e : rd_step (rem, dn, le, rp, rm, kd, wa) = some (rd_c3 (rem, dn, le, rp, rm, kd, wa) (rd_pl rem le rm)) := by
          show (if le 0 ≤ le 1 then _ else if le (rem - 1) ≤ le (rem - 2) then _ else if rd_pl rem le rm = -1 then _ else _) = _
          rw [if_neg (by omega), if_neg (by omega), if_neg hb3]
        rw [e]
        refine ev_aload_n dR_reduceOnce_95 rfl ?_
        refine ev_iconst dR_reduceOnce_96 ?_
        refine ev_iload_n dR_reduceOnce_97 rfl ?_
        refine ev_iconst dR_reduceOnce_98 ?_
        refine ev_isub dR_reduceOnce_99 ?_
        refine ev_cVv dR_reduceOnce_100 cv_R_62 (ct_note v3 (by omega) (by omega) (by omega)) rfl rfl rfl (Nat.le_of_ble_eq_true rfl) (Nat.le_of_ble_eq_true rfl) (Nat.le_of_ble_eq_true rfl) ?_
        refine ev_aload_n dR_reduceOnce_103 rfl ?_
        refine ev_iload_n dR_reduceOnce_104 rfl ?_
        refine ev_cVv dR_reduceOnce_105 cv_R_75 (ct_flatten (by omega) (by omega) v2) rfl rfl rfl (Nat.le_of_ble_eq_true rfl) (Nat.le_of_ble_eq_true rfl) (Nat.le_of_ble_eq_true rfl) ?_
        refine ev_iconst dR_reduceOnce_108 ?_
        refine ev_zreturn dR_reduceOnce_109 rfl ?_ ?_
        · decide
        · exact ⟨rfl, rfl⟩
      · have e : rd_step (rem, dn, le, rp, rm, kd, wa) = none := by
          show (if le 0 ≤ le 1 then _ else if le (rem - 1) ≤ le (rem - 2) then _ else if rd_pl rem le rm = -1 then _ else _) = _
          rw [if_neg (by omega), if_neg (by omega), if_pos hb3]
        rw [e]
        refine ev_iconst dR_reduceOnce_93 ?_
        refine ev_zreturn dR_reduceOnce_94 rfl ?_ ?_
        · decide
        · exact ⟨rfl, rfl⟩
    · have e : rd_step (rem, dn, le, rp, rm, kd, wa) = some (rd_c2 (rem, dn, le, rp, rm, kd, wa)) := by
        show (if le 0 ≤ le 1 then _ else if le (rem - 1) ≤ le (rem - 2) then _ else _) = _
        rw [if_neg (by omega), if_pos (by omega)]
      rw [e]
      refine ev_aload_n dR_reduceOnce_60 rfl ?_
      refine ev_iconst dR_reduceOnce_61 ?_
      refine ev_aload_n dR_reduceOnce_62 rfl ?_
      refine ev_get dR_reduceOnce_63 fl_R_34 rfl rfl ?_
      refine ev_iconst dR_reduceOnce_66 ?_
      refine ev_isub dR_reduceOnce_67 ?_
      refine ev_cVv dR_reduceOnce_68 cv_R_62 (ct_note v3 (by omega) (by omega) (by omega)) rfl rfl rfl (Nat.le_of_ble_eq_true rfl) (Nat.le_of_ble_eq_true rfl) (Nat.le_of_ble_eq_true rfl) ?_
      refine ev_aload_n dR_reduceOnce_71 rfl ?_
      refine ev_dup dR_reduceOnce_72 rfl ?_
      refine ev_get dR_reduceOnce_73 fl_R_34 rfl rfl ?_
      refine ev_iconst dR_reduceOnce_76 ?_
      refine ev_isub dR_reduceOnce_77 ?_
      refine ev_put dR_reduceOnce_78 fp_R_34 (fun q => by cases q) rfl (Nat.le_of_ble_eq_true rfl) rfl rfl ?_
      refine ev_iconst dR_reduceOnce_81 ?_
      refine ev_zreturn dR_reduceOnce_82 rfl ?_ ?_
      · decide
      · exact ⟨rfl, rfl⟩
  · have e : rd_step (rem, dn, le, rp, rm, kd, wa) = some (rd_c1 (rem, dn, le, rp, rm, kd, wa)) := by
      show (if le 0 ≤ le 1 then _ else _) = _
      rw [if_pos (by omega)]
    rw [e]
    refine ev_aload_n dR_reduceOnce_15 rfl ?_
    refine ev_iconst dR_reduceOnce_16 ?_
    refine ev_iconst dR_reduceOnce_17 ?_
    refine ev_cVv dR_reduceOnce_18 cv_R_62 (ct_note v3 (by omega) (by decide) (by decide)) rfl rfl rfl (Nat.le_of_ble_eq_true rfl) (Nat.le_of_ble_eq_true rfl) (Nat.le_of_ble_eq_true rfl) ?_
    refine ev_aload_n dR_reduceOnce_21 rfl ?_
    refine ev_iconst dR_reduceOnce_22 ?_
    refine ev_iconst dR_reduceOnce_23 ?_
    refine ev_cVv dR_reduceOnce_24 cv_R_66 (ct_rmLen (by decide) (by decide) (by decide) (by omega) v2) rfl rfl rfl (Nat.le_of_ble_eq_true rfl) (Nat.le_of_ble_eq_true rfl) (Nat.le_of_ble_eq_true rfl) ?_
    refine ev_aload_n dR_reduceOnce_27 rfl ?_
    refine ev_iconst dR_reduceOnce_28 ?_
    refine ev_iconst dR_reduceOnce_29 ?_
    refine ev_cVv dR_reduceOnce_30 cv_R_69 (ct_rmCr (by decide) (by decide) (by decide) (by decide)) rfl rfl rfl (Nat.le_of_ble_eq_true rfl) (Nat.le_of_ble_eq_true rfl) (Nat.le_of_ble_eq_true rfl) ?_
    refine ev_iconst dR_reduceOnce_33 ?_
    refine ev_zreturn dR_reduceOnce_34 rfl ?_ ?_
    · decide
    · exact ⟨rfl, rfl⟩
end RD

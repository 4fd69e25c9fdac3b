/-! The reference: its reductions -/
section RH
variable {g : ev_G} {X : Bool} {M : ev_M} {d pc : Nat} {ls : List (Option Value)} {st : List Value} {h h' : List ev_AC} {kc ks : Nat} {Q : ev_O → List ev_AC → Prop}
theorem ev_hp (e : h = h') (k : ev_E g X M d pc ls st h' kc ks Q) : ev_E g X M d pc ls st h kc ks Q := by rw [e]; exact k
end RH
/-- the reference's heap, the reductions' cells one by one -/
def MHy (c : Nat → ev_AC) (th L n : Int) (tn : Bool) (P K S : Int → Int) (ty : Int) (z : MZ) (ya yb yc : Int → Int) (yn : Int) (yk yp : Int → Int) (ym : Int) (t : List ev_AC) : List ev_AC :=
  rp c (.inr (4, [ev_i th, ev_i L, ev_i (ev_b tn), .ref 17, .ref 18, ev_i n, .ref 19, ev_i ty, .ref 20, .ref 21, .ref 22, .ref 23, .ref 24, .ref 25, ev_i z.2.2.2.2.2.2, .ref 26, .ref 27, .ref 28, ev_i yn, .ref 29, .ref 30, ev_i ym]) ::
    ev_ia 6 P :: ev_ia 6 K :: ev_ia 60 S :: ev_ia 49 z.1 :: ev_ia 21 z.2.1 :: ev_ia 21 z.2.2.1 :: ev_ia 7 z.2.2.2.1 :: ev_ia 7 z.2.2.2.2.1 :: ev_ia 6 z.2.2.2.2.2.1 :: ev_ia 7 ya :: ev_ia 7 yb :: ev_ia 7 yc :: ev_ia 7 yk :: ev_ia 7 yp :: t)
/-- the same, the search's cells one by one -/
def MHz (c : Nat → ev_AC) (th L n : Int) (tn : Bool) (P K S : Int → Int) (ty : Int) (zo zA zB zl zh zm : Int → Int) (zf : Int) (y : MY) (t : List ev_AC) : List ev_AC :=
  rp c (.inr (4, [ev_i th, ev_i L, ev_i (ev_b tn), .ref 17, .ref 18, ev_i n, .ref 19, ev_i ty, .ref 20, .ref 21, .ref 22, .ref 23, .ref 24, .ref 25, ev_i zf, .ref 26, .ref 27, .ref 28, ev_i y.2.2.2.1, .ref 29, .ref 30, ev_i y.2.2.2.2.2.2]) ::
    ev_ia 6 P :: ev_ia 6 K :: ev_ia 60 S :: ev_ia 49 zo :: ev_ia 21 zA :: ev_ia 21 zB :: ev_ia 7 zl :: ev_ia 7 zh :: ev_ia 6 zm :: ev_ia 7 y.1 :: ev_ia 7 y.2.1 :: ev_ia 7 y.2.2.1 :: ev_ia 7 y.2.2.2.2.1 :: ev_ia 7 y.2.2.2.2.2.1 :: t)
def my_drop (y : MY) (k : Int) : MY := (sp_dl y.1 k (y.2.2.2.1 - 1), sp_dl y.2.1 k (y.2.2.2.1 - 1), sp_dl y.2.2.1 k (y.2.2.2.1 - 1), y.2.2.2.1 - 1, y.2.2.2.2.1, y.2.2.2.2.2.1, y.2.2.2.2.2.2)
def my_note (y : MY) (k p : Int) : MY := (y.1, y.2.1, y.2.2.1, y.2.2.2.1, ev_up y.2.2.2.2.1 y.2.2.2.2.2.2 k, ev_up y.2.2.2.2.2.1 y.2.2.2.2.2.2 p, y.2.2.2.2.2.2 + 1)
def my_row (y : MY) (R : Int → Int) (r : Int) : MY := (R, y.2.1, y.2.2.1, r, y.2.2.2.2.1, y.2.2.2.2.2.1, y.2.2.2.2.2.2)
/-- the class's cells and the reference's say the same -/
def rd_R (r : RS) (y : MY) : Prop := y.2.2.2.1 = r.1 ∧ y.2.2.2.2.2.2 = r.2.1 ∧ (∀ j, 0 ≤ j → j < r.1 → y.1 j = r.2.2.1 j) ∧ (∀ j, 0 ≤ j → j < r.1 - 1 → y.2.1 j = r.2.2.2.2.1 j ∧ y.2.2.1 j = r.2.2.2.1 j) ∧
  ∀ j, 0 ≤ j → j < r.2.1 → y.2.2.2.2.1 j = r.2.2.2.2.2.1 j ∧ y.2.2.2.2.2.1 j = r.2.2.2.2.2.2 j
theorem sp_dl_in {P : Int → Int} {i j x : Int} (h : i ≤ x ∧ x < j) : sp_dl P i j x = P (x + 1) := if_pos h
theorem sp_dl_out {P : Int → Int} {i j x : Int} (h : ¬ (i ≤ x ∧ x < j)) : sp_dl P i j x = P x := if_neg h
theorem rd_dl_in {F : Int → Int} {a k l x : Int} (h : a ≤ x ∧ x < l) : rd_dl F a k l x = F (x + k) := if_pos h
theorem rd_dl_out {F : Int → Int} {a k l x : Int} (h : ¬ (a ≤ x ∧ x < l)) : rd_dl F a k l x = F x := if_neg h
theorem rd_plN_cg {a b a' b' : Int → Int} {r : Int} (ha : ∀ j, 0 ≤ j → j < r → a j = a' j) (hb : ∀ j, 0 ≤ j → j < r - 1 → b j = b' j) : ∀ (k : Nat) (i : Int), 1 ≤ i → i + k ≤ r - 1 → rd_plN a b k i = rd_plN a' b' k i
  | 0, _, _, _ => rfl
  | k + 1, i, h1, h2 => by
    have ih := rd_plN_cg ha hb k (i + 1) (by omega) (by omega)
    unfold rd_plN
    rw [ha i (by omega) (by omega), ha (i - 1) (by omega) (by omega), ha (i + 1) (by omega) (by omega), hb (i - 1) (by omega) (by omega), hb i (by omega) (by omega), ih]
section RR
variable {r : RS} {y : MY}
theorem rd_Rs {k c p : Int} (h : rd_R r y) (h0 : 0 ≤ r.2.1) (hp : p = r.2.2.2.1 c) {j : Int} (j0 : 0 ≤ j) (j1 : j < r.2.1 + 1) :
    ev_up y.2.2.2.2.1 y.2.2.2.2.2.2 k j = ev_up r.2.2.2.2.2.1 r.2.1 k j ∧ ev_up y.2.2.2.2.2.1 y.2.2.2.2.2.2 p j = ev_up r.2.2.2.2.2.2 r.2.1 (r.2.2.2.1 c) j := by
  rw [h.2.1, hp]
  by_cases hj : j = r.2.1
  · rw [hj, ev_up_s, ev_up_s, ev_up_s, ev_up_s]
    exact ⟨rfl, rfl⟩
  · rw [ev_up_n hj, ev_up_n hj, ev_up_n hj, ev_up_n hj]
    exact h.2.2.2.2 j j0 (by omega)
theorem rd_R1 (h : rd_R r y) (h2 : 2 ≤ r.1) (h7 : r.1 ≤ 7) (h0 : 0 ≤ r.2.1) : rd_R (rd_c1 r) (my_drop (my_note y 1 (y.2.2.1 0)) 0) := by
  have h1 := h.1
  refine ⟨?_, ?_, fun j j0 j1 => ?_, fun j j0 j1 => ?_, fun j j0 j1 => ?_⟩
  · show y.2.2.2.1 - 1 = r.1 - 1
    rw [h1]
  · show y.2.2.2.2.2.2 + 1 = r.2.1 + 1
    rw [h.2.1]
  · have j1' : j < r.1 - 1 := j1
    show sp_dl y.1 0 (y.2.2.2.1 - 1) j = rd_dl r.2.2.1 0 1 (r.1 - 1) j
    rw [sp_dl_in (by omega), rd_dl_in (by omega)]
    exact h.2.2.1 (j + 1) (by omega) (by omega)
  · have j1' : j < r.1 - 1 - 1 := j1
    show sp_dl y.2.1 0 (y.2.2.2.1 - 1) j = rd_dl r.2.2.2.2.1 0 1 5 j ∧ sp_dl y.2.2.1 0 (y.2.2.2.1 - 1) j = rd_dl r.2.2.2.1 0 1 5 j
    rw [sp_dl_in (by omega), rd_dl_in (by omega), sp_dl_in (by omega), rd_dl_in (by omega)]
    exact h.2.2.2.1 (j + 1) (by omega) (by omega)
  · exact rd_Rs h h0 (h.2.2.2.1 0 (by omega) (by omega)).2 j0 j1
theorem rd_R2 (h : rd_R r y) (h2 : 2 ≤ r.1) (h7 : r.1 ≤ 7) (h0 : 0 ≤ r.2.1) : rd_R (rd_c2 r) (my_row (my_note y 2 (y.2.2.1 (y.2.2.2.1 - 2))) y.1 (y.2.2.2.1 - 1)) := by
  have h1 := h.1
  refine ⟨?_, ?_, fun j j0 j1 => ?_, fun j j0 j1 => ?_, fun j j0 j1 => ?_⟩
  · show y.2.2.2.1 - 1 = r.1 - 1
    rw [h1]
  · show y.2.2.2.2.2.2 + 1 = r.2.1 + 1
    rw [h.2.1]
  · have j1' : j < r.1 - 1 := j1
    exact h.2.2.1 j (by omega) (by omega)
  · have j1' : j < r.1 - 1 - 1 := j1
    exact h.2.2.2.1 j (by omega) (by omega)
  · refine rd_Rs h h0 ?_ j0 j1
    rw [h1]
    exact (h.2.2.2.1 (r.1 - 2) (by omega) (by omega)).2
theorem rd_R3 {m : Int} (h : rd_R r y) (m1 : 1 ≤ m) (m2 : m ≤ r.1 - 2) (h7 : r.1 ≤ 7) (h0 : 0 ≤ r.2.1) :
    rd_R (rd_c3 r m) (my_drop (my_drop (my_row (my_note y 3 (y.2.2.1 (m - 1))) (ev_up y.1 (m + 1) (y.1 (m - 1) - y.1 m + y.1 (m + 1))) y.2.2.2.1) (m - 1)) (m - 1)) := by
  have h1 := h.1
  refine ⟨?_, ?_, fun j j0 j1 => ?_, fun j j0 j1 => ?_, fun j j0 j1 => ?_⟩
  · show y.2.2.2.1 - 1 - 1 = r.1 - 2
    rw [h1]; omega
  · show y.2.2.2.2.2.2 + 1 = r.2.1 + 1
    rw [h.2.1]
  · have j1' : j < r.1 - 2 := j1
    show sp_dl (sp_dl (ev_up y.1 (m + 1) (y.1 (m - 1) - y.1 m + y.1 (m + 1))) (m - 1) (y.2.2.2.1 - 1)) (m - 1) (y.2.2.2.1 - 1 - 1) j = rd_dl (ev_up r.2.2.1 (m - 1) (r.2.2.1 (m - 1) - r.2.2.1 m + r.2.2.1 (m + 1))) m 2 (r.1 - 2) j
    rw [h1]
    by_cases q1 : j < m - 1
    · rw [sp_dl_out (by omega), sp_dl_out (by omega), rd_dl_out (by omega), ev_up_n (by omega), ev_up_n (by omega)]
      exact h.2.2.1 j j0 (by omega)
    · by_cases q2 : j = m - 1
      · rw [sp_dl_in (by omega), sp_dl_in (by omega), rd_dl_out (by omega), q2, ev_up_s, show m - 1 + 1 + 1 = m + 1 by omega, ev_up_s, h.2.2.1 (m - 1) (by omega) (by omega), h.2.2.1 m (by omega) (by omega), h.2.2.1 (m + 1) (by omega) (by omega)]
      · rw [sp_dl_in (by omega), sp_dl_in (by omega), rd_dl_in (by omega), ev_up_n (by omega), ev_up_n (by omega), show j + 1 + 1 = j + 2 by omega]
        exact h.2.2.1 (j + 2) (by omega) (by omega)
  · have j1' : j < r.1 - 2 - 1 := j1
    show sp_dl (sp_dl y.2.1 (m - 1) (y.2.2.2.1 - 1)) (m - 1) (y.2.2.2.1 - 1 - 1) j = rd_dl r.2.2.2.2.1 (m - 1) 2 4 j ∧ sp_dl (sp_dl y.2.2.1 (m - 1) (y.2.2.2.1 - 1)) (m - 1) (y.2.2.2.1 - 1 - 1) j = rd_dl r.2.2.2.1 (m - 1) 2 4 j
    rw [h1]
    by_cases q1 : j < m - 1
    · rw [sp_dl_out (by omega), sp_dl_out (by omega), rd_dl_out (by omega), sp_dl_out (by omega), sp_dl_out (by omega), rd_dl_out (by omega)]
      exact h.2.2.2.1 j j0 (by omega)
    · rw [sp_dl_in (by omega), sp_dl_in (by omega), rd_dl_in (by omega), sp_dl_in (by omega), sp_dl_in (by omega), rd_dl_in (by omega), show j + 1 + 1 = j + 2 by omega]
      exact h.2.2.2.1 (j + 2) (by omega) (by omega)
  · exact rd_Rs h h0 (h.2.2.2.1 (m - 1) (by omega) (by omega)).2 j0 j1
end RR
section R9
variable {g : ev_G} {d : Nat} {c : Nat → ev_AC} {h : List ev_AC} {th L n : Int} {tn : Bool} {P K S : Int → Int} {ty : Int} {z : MZ} {y : MY} {t : List ev_AC}
theorem ct_Mdrop {k : Int} (k0 : 0 ≤ k) (k1 : k ≤ y.2.2.2.1 - 1) (r7 : y.2.2.2.1 ≤ 7) : ev_C g mM_drop d [.ref 16, ev_i k] (MH c th L n tn P K S ty z y t) 0 0 (ev_V none (MH c th L n tn P K S ty z (my_drop y k) t)) := by
  obtain ⟨ya, yb, yc, yn, yk, yp, ym⟩ := y
  have k1' : k ≤ yn - 1 := k1
  have r7' : yn ≤ 7 := r7
  show ev_C g mM_drop d [.ref 16, ev_i k] (MHy c th L n tn P K S ty z ya yb yc yn yk yp ym t) 0 0 (ev_V none (MHy c th L n tn P K S ty z (sp_dl ya k (yn - 1)) (sp_dl yb k (yn - 1)) (sp_dl yc k (yn - 1)) (yn - 1) yk yp ym t))
  refine ev_ofE (by decide +kernel) rfl (Nat.le_of_ble_eq_true rfl) rfl rfl ?_
  have loop : ∀ (i : Nat) (j : Int), j + i = yn - 1 → k ≤ j → ev_E g false mM_drop d 12 [some (.ref 16), some (ev_i k), some (ev_i j)] [] (MHy c th L n tn P K S ty z (sp_dl ya k j) (sp_dl yb k j) (sp_dl yc k j) (yn - 1) yk yp ym t) 0 0 (ev_V none (MHy c th L n tn P K S ty z (sp_dl ya k (yn - 1)) (sp_dl yb k (yn - 1)) (sp_dl yc k (yn - 1)) (yn - 1) yk yp ym t)) := by
    intro i
    induction i with
    | zero =>
      intro j hj hij
      have hjn : j = yn - 1 := by omega
      subst hjn
      refine ev_iload_n dM_drop_12 rfl ?_
      refine ev_aload_n dM_drop_13 rfl ?_
      refine ev_get dM_drop_14 fl_M_104 rfl rfl ?_
      refine ev_icmp_ge (tgt := 68) dM_drop_17 rfl (by omega) (by omega) (by omega) (by omega) (fun hb => ?_) (fun hb => ?_)
      · refine ev_return dM_drop_68 rfl ?_
        exact ⟨rfl, rfl⟩
      · omega
    | succ i ih =>
      intro j hj hij
      refine ev_iload_n dM_drop_12 rfl ?_
      refine ev_aload_n dM_drop_13 rfl ?_
      refine ev_get dM_drop_14 fl_M_104 rfl rfl ?_
      refine ev_icmp_ge (tgt := 68) dM_drop_17 rfl (by omega) (by omega) (by omega) (by omega) (fun hb => ?_) (fun hb => ?_)
      · omega
      · refine ev_aload_n dM_drop_20 rfl ?_
        refine ev_get dM_drop_21 fl_M_41 rfl rfl ?_
        refine ev_iload_n dM_drop_24 rfl ?_
        refine ev_aload_n dM_drop_25 rfl ?_
        refine ev_get dM_drop_26 fl_M_41 rfl rfl ?_
        refine ev_iload_n dM_drop_29 rfl ?_
        refine ev_iconst dM_drop_30 ?_
        refine ev_iadd dM_drop_31 ?_
        refine ev_iald dM_drop_32 rfl (by omega) (by omega) (by decide) ?_
        refine ev_iast dM_drop_33 rfl (by omega) (by omega) (by decide) ?_
        refine ev_aload_n dM_drop_34 rfl ?_
        refine ev_get dM_drop_35 fl_M_44 rfl rfl ?_
        refine ev_iload_n dM_drop_38 rfl ?_
        refine ev_aload_n dM_drop_39 rfl ?_
        refine ev_get dM_drop_40 fl_M_44 rfl rfl ?_
        refine ev_iload_n dM_drop_43 rfl ?_
        refine ev_iconst dM_drop_44 ?_
        refine ev_iadd dM_drop_45 ?_
        refine ev_iald dM_drop_46 rfl (by omega) (by omega) (by decide) ?_
        refine ev_iast dM_drop_47 rfl (by omega) (by omega) (by decide) ?_
        refine ev_aload_n dM_drop_48 rfl ?_
        refine ev_get dM_drop_49 fl_M_47 rfl rfl ?_
        refine ev_iload_n dM_drop_52 rfl ?_
        refine ev_aload_n dM_drop_53 rfl ?_
        refine ev_get dM_drop_54 fl_M_47 rfl rfl ?_
        refine ev_iload_n dM_drop_57 rfl ?_
        refine ev_iconst dM_drop_58 ?_
        refine ev_iadd dM_drop_59 ?_
        refine ev_iald dM_drop_60 rfl (by omega) (by omega) (by decide) ?_
        refine ev_iast dM_drop_61 rfl (by omega) (by omega) (by decide) ?_
        refine ev_iinc dM_drop_62 rfl ?_
        refine ev_goto (tgt := 12) dM_drop_65 rfl ?_
        have := ih (j + 1) (by omega) (by omega)
        rw [← sp_dl_s hij, ← sp_dl_s hij, ← sp_dl_s hij] at this
        exact this
  have := loop (yn - 1 - k).toNat k (by omega) (by omega)
  rw [sp_dl_0, sp_dl_0, sp_dl_0] at this
  refine ev_aload_n dM_drop_0 rfl ?_
  refine ev_dup dM_drop_1 rfl ?_
  refine ev_get dM_drop_2 fl_M_104 rfl rfl ?_
  refine ev_iconst dM_drop_5 ?_
  refine ev_isub dM_drop_6 ?_
  refine ev_put dM_drop_7 fp_M_104 (fun q => by cases q) rfl (Nat.le_of_ble_eq_true rfl) rfl rfl ?_
  refine ev_iload_n dM_drop_10 rfl ?_
  refine ev_istore_n dM_drop_11 (Nat.le_of_ble_eq_true rfl) ?_
  exact this
theorem ct_Mnote {k p : Int} (m0 : 0 ≤ y.2.2.2.2.2.2) (m1 : y.2.2.2.2.2.2 ≤ 6) : ev_C g mM_note d [.ref 16, ev_i k, ev_i p] (MH c th L n tn P K S ty z y t) 0 0 (ev_V none (MH c th L n tn P K S ty z (my_note y k p) t)) := by
  obtain ⟨ya, yb, yc, yn, yk, yp, ym⟩ := y
  have m0' : 0 ≤ ym := m0
  have m1' : ym ≤ 6 := m1
  show ev_C g mM_note d [.ref 16, ev_i k, ev_i p] (MHy c th L n tn P K S ty z ya yb yc yn yk yp ym t) 0 0 (ev_V none (MHy c th L n tn P K S ty z ya yb yc yn (ev_up yk ym k) (ev_up yp ym p) (ym + 1) t))
  refine ev_ofE (by decide +kernel) rfl (Nat.le_of_ble_eq_true rfl) rfl rfl ?_
  refine ev_aload_n dM_note_0 rfl ?_
  refine ev_get dM_note_1 fl_M_50 rfl rfl ?_
  refine ev_aload_n dM_note_4 rfl ?_
  refine ev_get dM_note_5 fl_M_107 rfl rfl ?_
  refine ev_iload_n dM_note_8 rfl ?_
  refine ev_iast dM_note_9 rfl (by omega) (by omega) (by decide) ?_
  refine ev_aload_n dM_note_10 rfl ?_
  refine ev_get dM_note_11 fl_M_53 rfl rfl ?_
  refine ev_aload_n dM_note_14 rfl ?_
  refine ev_get dM_note_15 fl_M_107 rfl rfl ?_
  refine ev_iload_n dM_note_18 rfl ?_
  refine ev_iast dM_note_19 rfl (by omega) (by omega) (by decide) ?_
  refine ev_aload_n dM_note_20 rfl ?_
  refine ev_dup dM_note_21 rfl ?_
  refine ev_get dM_note_22 fl_M_107 rfl rfl ?_
  refine ev_iconst dM_note_25 ?_
  refine ev_iadd dM_note_26 ?_
  refine ev_put dM_note_27 fp_M_107 (fun q => by cases q) rfl (Nat.le_of_ble_eq_true rfl) rfl rfl ?_
  refine ev_return dM_note_30 rfl ?_
  exact ⟨rfl, rfl⟩
theorem ct_Mmiddle (r2 : 2 ≤ y.2.2.2.1) (r7 : y.2.2.2.1 ≤ 7) (hl : ∀ j, 0 ≤ j → j < y.2.2.2.1 → 0 ≤ y.1 j ∧ y.1 j ≤ 3840) (hm : ∀ j, 0 ≤ j → j < y.2.2.2.1 - 1 → 0 ≤ y.2.1 j ∧ y.2.1 j ≤ 2) :
    ev_C g mM_middle d [.ref 16] (MH c th L n tn P K S ty z y t) 0 0 (ev_V (some (ev_i (rd_pl y.2.2.2.1 y.1 y.2.1))) (MH c th L n tn P K S ty z y t)) := by
  obtain ⟨ya, yb, yc, yn, yk, yp, ym⟩ := y
  have r2' : 2 ≤ yn := r2
  have r7' : yn ≤ 7 := r7
  have hl' : ∀ j, 0 ≤ j → j < yn → 0 ≤ ya j ∧ ya j ≤ 3840 := hl
  have hm' : ∀ j, 0 ≤ j → j < yn - 1 → 0 ≤ yb j ∧ yb j ≤ 2 := hm
  show ev_C g mM_middle d [.ref 16] (MHy c th L n tn P K S ty z ya yb yc yn yk yp ym t) 0 0 (ev_V (some (ev_i (rd_pl yn ya yb))) (MHy c th L n tn P K S ty z ya yb yc yn yk yp ym t))
  refine ev_ofE (by decide +kernel) rfl (Nat.le_of_ble_eq_true rfl) rfl rfl ?_
  have loop : ∀ (k : Nat) (i : Int), 1 ≤ i → i + k = yn - 1 → ev_E g false mM_middle d 2 [some (.ref 16), some (ev_i i)] [] (MHy c th L n tn P K S ty z ya yb yc yn yk yp ym t) 0 0 (ev_V (some (ev_i (rd_plN ya yb k i))) (MHy c th L n tn P K S ty z ya yb yc yn yk yp ym t)) := by
    intro k
    induction k with
    | zero =>
      intro i i1 hk
      refine ev_iload_n dM_middle_2 rfl ?_
      refine ev_aload_n dM_middle_3 rfl ?_
      refine ev_get dM_middle_4 fl_M_104 rfl rfl ?_
      refine ev_iconst dM_middle_7 ?_
      refine ev_isub dM_middle_8 ?_
      refine ev_icmp_ge (tgt := 71) dM_middle_9 rfl (by omega) (by omega) (by omega) (by omega) (fun hb => ?_) (fun hb => ?_)
      · refine ev_iconst dM_middle_71 ?_
        refine ev_ireturn dM_middle_72 rfl ?_
        exact ⟨rfl, rfl⟩
      · omega
    | succ k ih =>
      intro i i1 hk
      have v0 := hl' i (by omega) (by omega)
      have v1 := hl' (i - 1) (by omega) (by omega)
      have v2 := hl' (i + 1) (by omega) (by omega)
      have v3 := hm' (i - 1) (by omega) (by omega)
      have v4 := hm' i (by omega) (by omega)
      have next := ih (i + 1) (by omega) (by omega)
      unfold rd_plN
      refine ev_iload_n dM_middle_2 rfl ?_
      refine ev_aload_n dM_middle_3 rfl ?_
      refine ev_get dM_middle_4 fl_M_104 rfl rfl ?_
      refine ev_iconst dM_middle_7 ?_
      refine ev_isub dM_middle_8 ?_
      refine ev_icmp_ge (tgt := 71) dM_middle_9 rfl (by omega) (by omega) (by omega) (by omega) (fun hb => ?_) (fun hb => ?_)
      · omega
      · refine ev_aload_n dM_middle_12 rfl ?_
        refine ev_get dM_middle_13 fl_M_41 rfl rfl ?_
        refine ev_iload_n dM_middle_16 rfl ?_
        refine ev_iald dM_middle_17 rfl (by omega) (by omega) (by decide) ?_
        refine ev_aload_n dM_middle_18 rfl ?_
        refine ev_get dM_middle_19 fl_M_41 rfl rfl ?_
        refine ev_iload_n dM_middle_22 rfl ?_
        refine ev_iconst dM_middle_23 ?_
        refine ev_isub dM_middle_24 ?_
        refine ev_iald dM_middle_25 rfl (by omega) (by omega) (by decide) ?_
        refine ev_icmp_gt (tgt := 65) dM_middle_26 rfl (by omega) (by omega) (by omega) (by omega) (fun b1 => ?_) (fun b1 => ?_)
        · rw [if_neg (by omega)]
          refine ev_iinc dM_middle_65 rfl ?_
          refine ev_goto (tgt := 2) dM_middle_68 rfl ?_
          exact next
        · refine ev_aload_n dM_middle_29 rfl ?_
          refine ev_get dM_middle_30 fl_M_41 rfl rfl ?_
          refine ev_iload_n dM_middle_33 rfl ?_
          refine ev_iald dM_middle_34 rfl (by omega) (by omega) (by decide) ?_
          refine ev_aload_n dM_middle_35 rfl ?_
          refine ev_get dM_middle_36 fl_M_41 rfl rfl ?_
          refine ev_iload_n dM_middle_39 rfl ?_
          refine ev_iconst dM_middle_40 ?_
          refine ev_iadd dM_middle_41 ?_
          refine ev_iald dM_middle_42 rfl (by omega) (by omega) (by decide) ?_
          refine ev_icmp_gt (tgt := 65) dM_middle_43 rfl (by omega) (by omega) (by omega) (by omega) (fun b2 => ?_) (fun b2 => ?_)
          · rw [if_neg (by omega)]
            refine ev_iinc dM_middle_65 rfl ?_
            refine ev_goto (tgt := 2) dM_middle_68 rfl ?_
            exact next
          · refine ev_aload_n dM_middle_46 rfl ?_
            refine ev_get dM_middle_47 fl_M_44 rfl rfl ?_
            refine ev_iload_n dM_middle_50 rfl ?_
            refine ev_iconst dM_middle_51 ?_
            refine ev_isub dM_middle_52 ?_
            refine ev_iald dM_middle_53 rfl (by omega) (by omega) (by decide) ?_
            refine ev_aload_n dM_middle_54 rfl ?_
            refine ev_get dM_middle_55 fl_M_44 rfl rfl ?_
            refine ev_iload_n dM_middle_58 rfl ?_
            refine ev_iald dM_middle_59 rfl (by omega) (by omega) (by decide) ?_
            refine ev_icmp_eq (tgt := 65) dM_middle_60 rfl (by omega) (by omega) (by omega) (by omega) (fun b3 => ?_) (fun b3 => ?_)
            · rw [if_neg (fun q => q.2.2 b3)]
              refine ev_iinc dM_middle_65 rfl ?_
              refine ev_goto (tgt := 2) dM_middle_68 rfl ?_
              exact next
            · rw [if_pos ⟨b1, b2, b3⟩]
              refine ev_iload_n dM_middle_63 rfl ?_
              refine ev_ireturn dM_middle_64 rfl ?_
              exact ⟨rfl, rfl⟩
  refine ev_iconst dM_middle_0 ?_
  refine ev_istore_n dM_middle_1 (Nat.le_of_ble_eq_true rfl) ?_
  exact loop (yn - 2).toNat 1 (by omega) (by omega)
/-- the rows as the reference lays them out -/
def my_st (s : SG) (y : MY) (k : Int) : MY := (ev_ov (sp_len s.1 s.2.1 s.2.2.2.1) y.1 k, ev_ov (fun j => if j < s.2.1 then s.2.2.2.2 j else 0) y.2.1 k, ev_ov (fun j => if j < s.2.1 then s.2.2.2.1 j else 0) y.2.2.1 k, s.2.1 + 1, y.2.2.2.2.1, y.2.2.2.2.2.1, 0)
theorem rd_R0 {s : SG} {rs : RS} : rd_R (rd_st s rs) (my_st s y (s.2.1 + 1)) := by
  refine ⟨rfl, rfl, fun j j0 j1 => ?_, fun j j0 j1 => ?_, fun j j0 j1 => ?_⟩
  · have j1' : j < s.2.1 + 1 := j1
    show ev_ov (sp_len s.1 s.2.1 s.2.2.2.1) y.1 (s.2.1 + 1) j = ev_ov (sp_len s.1 s.2.1 s.2.2.2.1) rs.2.2.1 (s.2.1 + 1) j
    rw [ev_ov_in j0 j1', ev_ov_in j0 j1']
  · have j1' : j < s.2.1 + 1 - 1 := j1
    show ev_ov (fun j => if j < s.2.1 then s.2.2.2.2 j else 0) y.2.1 (s.2.1 + 1) j = ev_ov s.2.2.2.2 rs.2.2.2.2.1 s.2.1 j ∧ ev_ov (fun j => if j < s.2.1 then s.2.2.2.1 j else 0) y.2.2.1 (s.2.1 + 1) j = ev_ov s.2.2.2.1 rs.2.2.2.1 s.2.1 j
    rw [ev_ov_in j0 (by omega), ev_ov_in j0 (by omega), ev_ov_in j0 (by omega), ev_ov_in j0 (by omega)]
    exact ⟨if_pos (by omega), if_pos (by omega)⟩
  · have j1' : j < 0 := j1
    omega
def my_Q (c : Nat → ev_AC) (th : Int) (s : SG) (S : Int → Int) (ty : Int) (z : MZ) (t : List ev_AC) (r : RS) : ev_O → List ev_AC → Prop := fun o h' => o = .inl none ∧ ∃ y', rd_R r y' ∧ h' = MS c th s S ty z y' t
set_option maxHeartbeats 4000000 in
theorem ct_Mred_loop (ok : sp_ok L n P K) : ∀ (k i : Nat) (r : RS) (y : MY) (o2 : Option Value), i + k = 6 → rd_inv i r → r.2.1 = i → rd_R r y →
      ev_E g false mM_reduce (d + 1) 98 [some (.ref 16), some (ev_i 1), o2] [] (MH c th L n tn P K S ty z y t) 0 0 (my_Q c th (L, n, tn, P, K) S ty z t (rd_iter k r)) := by
  have hn0 := ok.2.2.1
  have hn := ok.2.2.2.1
  intro k
  induction k with
  | zero =>
    intro i r y o2 hk hv hd hR
    obtain ⟨ya, yb, yc, yn, yk, yp, ym⟩ := y
    have h1 : yn = r.1 := hR.1
    have v1 := hv.1
    have v4 := hv.2.2.2.1
    refine ev_hp (h' := MHy c th L n tn P K S ty z ya yb yc yn yk yp ym t) rfl ?_
    refine ev_iload_n dM_reduce_98 rfl ?_
    refine ev_if_eq (tgt := 274) dM_reduce_99 rfl (by omega) (by omega) (fun h0 => ?_) (fun h0 => ?_)
    · omega
    · refine ev_aload_n dM_reduce_102 rfl ?_
      refine ev_get dM_reduce_103 fl_M_104 rfl rfl ?_
      refine ev_iconst dM_reduce_106 ?_
      refine ev_icmp_le (tgt := 274) dM_reduce_107 rfl (by omega) (by omega) (by omega) (by omega) (fun b1 => ?_) (fun b1 => ?_)
      · refine ev_return dM_reduce_274 rfl ?_
        exact ⟨rfl, _, hR, rfl⟩
      · omega
  | succ k ih =>
    intro i r y o2 hk hv hd hR
    have hv0 := hv
    have hR0 := hR
    obtain ⟨ya, yb, yc, yn, yk, yp, ym⟩ := y
    have h1 : yn = r.1 := hR.1
    have h2 : ym = r.2.1 := hR.2.1
    obtain ⟨v1, v2, v3, v4, v5, v6⟩ := hv
    have hM := rd_M_bd i (by omega)
    have hl : ∀ j, 0 ≤ j → j < yn → 0 ≤ ya j ∧ ya j ≤ 3840 := fun j j0 j1 => by
      have e : ya j = r.2.2.1 j := hR.2.2.1 j j0 (by omega)
      have := v5 j j0 (by omega)
      omega
    have hm : ∀ j, 0 ≤ j → j < yn - 1 → 0 ≤ yb j ∧ yb j ≤ 2 := fun j j0 j1 => by
      have e : yb j = r.2.2.2.2.1 j := (hR.2.2.2.1 j j0 (by omega)).1
      have := v6 j j0 (by omega)
      omega
    refine ev_hp (h' := MHy c th L n tn P K S ty z ya yb yc yn yk yp ym t) rfl ?_
    refine ev_iload_n dM_reduce_98 rfl ?_
    refine ev_if_eq (tgt := 274) dM_reduce_99 rfl (by omega) (by omega) (fun h0 => ?_) (fun h0 => ?_)
    · omega
    · refine ev_aload_n dM_reduce_102 rfl ?_
      refine ev_get dM_reduce_103 fl_M_104 rfl rfl ?_
      refine ev_iconst dM_reduce_106 ?_
      refine ev_icmp_le (tgt := 274) dM_reduce_107 rfl (by omega) (by omega) (by omega) (by omega) (fun b1 => ?_) (fun b1 => ?_)
      · refine ev_return dM_reduce_274 rfl ?_
        rw [rd_iter, if_neg (by omega)]
        exact ⟨rfl, _, hR0, rfl⟩
      · have e0 : ya 0 = r.2.2.1 0 := hR.2.2.1 0 (by omega) (by omega)
        have e1 : ya 1 = r.2.2.1 1 := hR.2.2.1 1 (by omega) (by omega)
        have e2 : ya (yn - 1) = r.2.2.1 (r.1 - 1) := by rw [h1]; exact hR.2.2.1 (r.1 - 1) (by omega) (by omega)
        have e3 : ya (yn - 2) = r.2.2.1 (r.1 - 2) := by rw [h1]; exact hR.2.2.1 (r.1 - 2) (by omega) (by omega)
        have w0 := hl 0 (by omega) (by omega)
        have w1 := hl 1 (by omega) (by omega)
        have w2 := hl (yn - 1) (by omega) (by omega)
        have w3 := hl (yn - 2) (by omega) (by omega)
        have ep : rd_pl yn ya yb = rd_pl r.1 r.2.2.1 r.2.2.2.2.1 := by
          rw [h1]
          exact rd_plN_cg (r := r.1) hR.2.2.1 (fun j j0 j1 => (hR.2.2.2.1 j j0 j1).1) (r.1 - 2).toNat 1 (by omega) (by omega)
        have hpl := rd_plN_spec (le := r.2.2.1) (rm := r.2.2.2.2.1) (r.1 - 2).toNat 1
        have hpl' : rd_pl r.1 r.2.2.1 r.2.2.2.2.1 = -1 ∨ (1 ≤ rd_pl r.1 r.2.2.1 r.2.2.2.2.1 ∧ rd_pl r.1 r.2.2.1 r.2.2.2.2.1 ≤ r.1 - 2) := by
          rcases hpl with q | q
          · exact Or.inl q
          · exact Or.inr ⟨q.1, by have := q.2.1; show rd_plN r.2.2.1 r.2.2.2.2.1 (r.1 - 2).toNat 1 ≤ r.1 - 2; omega⟩
        rw [rd_iter, if_pos (by omega)]
        refine ev_aload_n dM_reduce_110 rfl ?_
        refine ev_cV dM_reduce_111 cv_M_110 (ct_Mmiddle (y := (ya, yb, yc, yn, yk, yp, ym)) (by show 2 ≤ yn; omega) (by show yn ≤ 7; omega) hl hm) rfl rfl rfl (Nat.le_of_ble_eq_true rfl) (Nat.le_of_ble_eq_true rfl) (Nat.le_of_ble_eq_true rfl) ?_
        refine ev_hp (h' := MHy c th L n tn P K S ty z ya yb yc yn yk yp ym t) rfl ?_
        rw [show rd_pl (ya, yb, yc, yn, yk, yp, ym).2.2.2.1 (ya, yb, yc, yn, yk, yp, ym).1 (ya, yb, yc, yn, yk, yp, ym).2.1 = rd_pl r.1 r.2.2.1 r.2.2.2.2.1 from ep]
        refine ev_istore_n dM_reduce_114 (Nat.le_of_ble_eq_true rfl) ?_
        refine ev_aload_n dM_reduce_115 rfl ?_
        refine ev_get dM_reduce_116 fl_M_41 rfl rfl ?_
        refine ev_iconst dM_reduce_119 ?_
        refine ev_iald dM_reduce_120 rfl (by omega) (by omega) (by decide) ?_
        refine ev_aload_n dM_reduce_121 rfl ?_
        refine ev_get dM_reduce_122 fl_M_41 rfl rfl ?_
        refine ev_iconst dM_reduce_125 ?_
        refine ev_iald dM_reduce_126 rfl (by omega) (by omega) (by decide) ?_
        refine ev_icmp_gt (tgt := 149) dM_reduce_127 rfl (by omega) (by omega) (by omega) (by omega) (fun b2 => ?_) (fun b2 => ?_)
        · refine ev_aload_n dM_reduce_149 rfl ?_
          refine ev_get dM_reduce_150 fl_M_41 rfl rfl ?_
          refine ev_aload_n dM_reduce_153 rfl ?_
          refine ev_get dM_reduce_154 fl_M_104 rfl rfl ?_
          refine ev_iconst dM_reduce_157 ?_
          refine ev_isub dM_reduce_158 ?_
          refine ev_iald dM_reduce_159 rfl (by omega) (by omega) (by decide) ?_
          refine ev_aload_n dM_reduce_160 rfl ?_
          refine ev_get dM_reduce_161 fl_M_41 rfl rfl ?_
          refine ev_aload_n dM_reduce_164 rfl ?_
          refine ev_get dM_reduce_165 fl_M_104 rfl rfl ?_
          refine ev_iconst dM_reduce_168 ?_
          refine ev_isub dM_reduce_169 ?_
          refine ev_iald dM_reduce_170 rfl (by omega) (by omega) (by decide) ?_
          refine ev_icmp_gt (tgt := 203) dM_reduce_171 rfl (by omega) (by omega) (by omega) (by omega) (fun b3 => ?_) (fun b3 => ?_)
          · refine ev_iload_n dM_reduce_203 rfl ?_
            refine ev_if_le (tgt := 269) dM_reduce_204 rfl (by omega) (by omega) (fun b4 => ?_) (fun b4 => ?_)
            · have es : rd_step r = none := by
                unfold rd_step
                rw [if_neg (by omega), if_neg (by omega), if_pos (by omega)]
              rw [es]
              refine ev_iconst dM_reduce_269 ?_
              refine ev_istore_n dM_reduce_270 (Nat.le_of_ble_eq_true rfl) ?_
              refine ev_goto (tgt := 98) dM_reduce_271 rfl ?_
              refine ev_iload_n dM_reduce_98 rfl ?_
              refine ev_if_eq (tgt := 274) dM_reduce_99 rfl (by omega) (by omega) (fun b5 => ?_) (fun b5 => ?_)
              · refine ev_return dM_reduce_274 rfl ?_
                exact ⟨rfl, _, hR0, rfl⟩
              · omega
            · have es : rd_step r = some (rd_c3 r (rd_pl r.1 r.2.2.1 r.2.2.2.2.1)) := by
                unfold rd_step
                rw [if_neg (by omega), if_neg (by omega), if_neg (by omega)]
              have hv' := rd_inv_s (by omega) hv0 (by omega) es
              have hR' := rd_R3 (m := rd_pl r.1 r.2.2.1 r.2.2.2.2.1) hR0 (by omega) (by omega) v2 v3
              rw [es]
              generalize rd_pl r.1 r.2.2.1 r.2.2.2.2.1 = m at *
              have m1 : 1 ≤ m ∧ m ≤ r.1 - 2 := by omega
              refine ev_aload_n dM_reduce_207 rfl ?_
              refine ev_iconst dM_reduce_208 ?_
              refine ev_aload_n dM_reduce_209 rfl ?_
              refine ev_get dM_reduce_210 fl_M_47 rfl rfl ?_
              refine ev_iload_n dM_reduce_213 rfl ?_
              refine ev_iconst dM_reduce_214 ?_
              refine ev_isub dM_reduce_215 ?_
              refine ev_iald dM_reduce_216 rfl (by omega) (by omega) (by decide) ?_
              refine ev_cVv dM_reduce_217 cv_M_113 (ct_Mnote (y := (ya, yb, yc, yn, yk, yp, ym)) (by show 0 ≤ ym; omega) (by show ym ≤ 6; omega)) rfl rfl rfl (Nat.le_of_ble_eq_true rfl) (Nat.le_of_ble_eq_true rfl) (Nat.le_of_ble_eq_true rfl) ?_
              refine ev_hp (h' := MHy c th L n tn P K S ty z ya yb yc yn (ev_up yk ym 3) (ev_up yp ym (yc (m - 1))) (ym + 1) t) rfl ?_
              refine ev_aload_n dM_reduce_220 rfl ?_
              refine ev_get dM_reduce_221 fl_M_41 rfl rfl ?_
              refine ev_iload_n dM_reduce_224 rfl ?_
              refine ev_iconst dM_reduce_225 ?_
              refine ev_iadd dM_reduce_226 ?_
              refine ev_aload_n dM_reduce_227 rfl ?_
              refine ev_get dM_reduce_228 fl_M_41 rfl rfl ?_
              refine ev_iload_n dM_reduce_231 rfl ?_
              refine ev_iconst dM_reduce_232 ?_
              refine ev_isub dM_reduce_233 ?_
              refine ev_iald dM_reduce_234 rfl (by omega) (by omega) (by decide) ?_
              refine ev_aload_n dM_reduce_235 rfl ?_
              refine ev_get dM_reduce_236 fl_M_41 rfl rfl ?_
              refine ev_iload_n dM_reduce_239 rfl ?_
              refine ev_iald dM_reduce_240 rfl (by omega) (by omega) (by decide) ?_
              refine ev_isub dM_reduce_241 ?_
              refine ev_aload_n dM_reduce_242 rfl ?_
              refine ev_get dM_reduce_243 fl_M_41 rfl rfl ?_
              refine ev_iload_n dM_reduce_246 rfl ?_
              refine ev_iconst dM_reduce_247 ?_
              refine ev_iadd dM_reduce_248 ?_
              refine ev_iald dM_reduce_249 rfl (by omega) (by omega) (by decide) ?_
              refine ev_iadd dM_reduce_250 ?_
              refine ev_iast dM_reduce_251 rfl (by omega) (by omega) (by decide) ?_
              refine ev_aload_n dM_reduce_252 rfl ?_
              refine ev_iload_n dM_reduce_253 rfl ?_
              refine ev_iconst dM_reduce_254 ?_
              refine ev_isub dM_reduce_255 ?_
              refine ev_hp (h' := MHy c th L n tn P K S ty z (ev_up ya (m + 1) (ya (m - 1) - ya m + ya (m + 1))) yb yc yn (ev_up yk ym 3) (ev_up yp ym (yc (m - 1))) (ym + 1) t) rfl ?_
              refine ev_cVv dM_reduce_256 cv_M_117 (ct_Mdrop (y := my_row (my_note (ya, yb, yc, yn, yk, yp, ym) 3 (yc (m - 1))) (ev_up ya (m + 1) (ya (m - 1) - ya m + ya (m + 1))) yn) (k := m - 1) (by omega) (by show m - 1 ≤ yn - 1; omega) (by show yn ≤ 7; omega)) rfl rfl rfl (Nat.le_of_ble_eq_true rfl) (Nat.le_of_ble_eq_true rfl) (Nat.le_of_ble_eq_true rfl) ?_
              refine ev_aload_n dM_reduce_259 rfl ?_
              refine ev_iload_n dM_reduce_260 rfl ?_
              refine ev_iconst dM_reduce_261 ?_
              refine ev_isub dM_reduce_262 ?_
              refine ev_cVv dM_reduce_263 cv_M_117 (ct_Mdrop (y := my_drop (my_row (my_note (ya, yb, yc, yn, yk, yp, ym) 3 (yc (m - 1))) (ev_up ya (m + 1) (ya (m - 1) - ya m + ya (m + 1))) yn) (m - 1)) (k := m - 1) (by omega) (by show m - 1 ≤ yn - 1 - 1; omega) (by show yn - 1 ≤ 7; omega)) rfl rfl rfl (Nat.le_of_ble_eq_true rfl) (Nat.le_of_ble_eq_true rfl) (Nat.le_of_ble_eq_true rfl) ?_
              refine ev_goto (tgt := 271) dM_reduce_266 rfl ?_
              refine ev_goto (tgt := 98) dM_reduce_271 rfl ?_
              refine ev_hp (h' := MH c th L n tn P K S ty z (my_drop (my_drop (my_row (my_note (ya, yb, yc, yn, yk, yp, ym) 3 (yc (m - 1))) (ev_up ya (m + 1) (ya (m - 1) - ya m + ya (m + 1))) yn) (m - 1)) (m - 1)) t) rfl ?_
              exact ih (i + 1) _ (my_drop (my_drop (my_row (my_note (ya, yb, yc, yn, yk, yp, ym) 3 (yc (m - 1))) (ev_up ya (m + 1) (ya (m - 1) - ya m + ya (m + 1))) yn) (m - 1)) (m - 1)) _ (by omega) hv' (by show r.2.1 + 1 = ((i + 1 : Nat) : Int); omega) hR'
          · have es : rd_step r = some (rd_c2 r) := by
              unfold rd_step
              rw [if_neg (by omega), if_pos (by omega)]
            have hv' := rd_inv_s (by omega) hv0 (by omega) es
            have hR' := rd_R2 hR0 (by omega) v2 v3
            rw [es]
            refine ev_aload_n dM_reduce_174 rfl ?_
            refine ev_iconst dM_reduce_175 ?_
            refine ev_aload_n dM_reduce_176 rfl ?_
            refine ev_get dM_reduce_177 fl_M_47 rfl rfl ?_
            refine ev_aload_n dM_reduce_180 rfl ?_
            refine ev_get dM_reduce_181 fl_M_104 rfl rfl ?_
            refine ev_iconst dM_reduce_184 ?_
            refine ev_isub dM_reduce_185 ?_
            refine ev_iald dM_reduce_186 rfl (by omega) (by omega) (by decide) ?_
            refine ev_cVv dM_reduce_187 cv_M_113 (ct_Mnote (y := (ya, yb, yc, yn, yk, yp, ym)) (by show 0 ≤ ym; omega) (by show ym ≤ 6; omega)) rfl rfl rfl (Nat.le_of_ble_eq_true rfl) (Nat.le_of_ble_eq_true rfl) (Nat.le_of_ble_eq_true rfl) ?_
            refine ev_hp (h' := MHy c th L n tn P K S ty z ya yb yc yn (ev_up yk ym 2) (ev_up yp ym (yc (yn - 2))) (ym + 1) t) rfl ?_
            refine ev_aload_n dM_reduce_190 rfl ?_
            refine ev_dup dM_reduce_191 rfl ?_
            refine ev_get dM_reduce_192 fl_M_104 rfl rfl ?_
            refine ev_iconst dM_reduce_195 ?_
            refine ev_isub dM_reduce_196 ?_
            refine ev_put dM_reduce_197 fp_M_104 (fun q => by cases q) rfl (Nat.le_of_ble_eq_true rfl) rfl rfl ?_
            refine ev_goto (tgt := 271) dM_reduce_200 rfl ?_
            refine ev_goto (tgt := 98) dM_reduce_271 rfl ?_
            refine ev_hp (h' := MH c th L n tn P K S ty z (my_row (my_note (ya, yb, yc, yn, yk, yp, ym) 2 (yc (yn - 2))) ya (yn - 1)) t) rfl ?_
            exact ih (i + 1) _ (my_row (my_note (ya, yb, yc, yn, yk, yp, ym) 2 (yc (yn - 2))) ya (yn - 1)) _ (by omega) hv' (by show r.2.1 + 1 = ((i + 1 : Nat) : Int); omega) hR'
        · have es : rd_step r = some (rd_c1 r) := by
            unfold rd_step
            rw [if_pos (by omega)]
          have hv' := rd_inv_s (by omega) hv0 (by omega) es
          have hR' := rd_R1 hR0 (by omega) v2 v3
          rw [es]
          refine ev_aload_n dM_reduce_130 rfl ?_
          refine ev_iconst dM_reduce_131 ?_
          refine ev_aload_n dM_reduce_132 rfl ?_
          refine ev_get dM_reduce_133 fl_M_47 rfl rfl ?_
          refine ev_iconst dM_reduce_136 ?_
          refine ev_iald dM_reduce_137 rfl (by omega) (by omega) (by decide) ?_
          refine ev_cVv dM_reduce_138 cv_M_113 (ct_Mnote (y := (ya, yb, yc, yn, yk, yp, ym)) (by show 0 ≤ ym; omega) (by show ym ≤ 6; omega)) rfl rfl rfl (Nat.le_of_ble_eq_true rfl) (Nat.le_of_ble_eq_true rfl) (Nat.le_of_ble_eq_true rfl) ?_
          refine ev_aload_n dM_reduce_141 rfl ?_
          refine ev_iconst dM_reduce_142 ?_
          refine ev_cVv dM_reduce_143 cv_M_117 (ct_Mdrop (y := my_note (ya, yb, yc, yn, yk, yp, ym) 1 (yc 0)) (k := 0) (by omega) (by show 0 ≤ yn - 1; omega) (by show yn ≤ 7; omega)) rfl rfl rfl (Nat.le_of_ble_eq_true rfl) (Nat.le_of_ble_eq_true rfl) (Nat.le_of_ble_eq_true rfl) ?_
          refine ev_goto (tgt := 271) dM_reduce_146 rfl ?_
          refine ev_goto (tgt := 98) dM_reduce_271 rfl ?_
          refine ev_hp (h' := MH c th L n tn P K S ty z (my_drop (my_note (ya, yb, yc, yn, yk, yp, ym) 1 (yc 0)) 0) t) rfl ?_
          exact ih (i + 1) _ (my_drop (my_note (ya, yb, yc, yn, yk, yp, ym) 1 (yc 0)) 0) _ (by omega) hv' (by show r.2.1 + 1 = ((i + 1 : Nat) : Int); omega) hR'

end R9

/-! The law's wrappers: crease, segment, step, type, above, layer (written by wip/gen/genw.py) -/
section WT
variable {g : ev_G} {d : Nat} {s : SG} {ty : Int} {rs : RS} {kn : Bool} {S : Int → Int} {mc : List ev_AC} {e : Nat} {h : List ev_AC} {F : Nat → Int64}
theorem ct_Lcrease {p m : Int} (p1 : -2147483648 ≤ p) (p2 : p < 2147483648) (m1 : -2147483648 ≤ m) (m2 : m < 2147483648) (hy : mc[15]? = some (ev_la 1 F)) (hh : LO s ty rs S mc e kn h) :
    ev_CW g mL_crease (d + 7) [.ref 0, ev_i p, ev_i m, .ref 31] h 1 6 (lw_out (lb_creaseR s p m) cd_A F mc (fun mc' => LO (lb_crease s p m).2 ty rs S mc' e (lb_kn (lb_crease s p m).1 kn))) := by
  have hh0 := hh
  obtain ⟨fo, kr, R, A, mk, x, tl, hL, hr, hk, hA⟩ := hh
  obtain ⟨ok, B, lo, hi, rfl, gvv⟩ := hL
  refine ev_ofCW (by decide +kernel) (Nat.le_of_ble_eq_true rfl) rfl rfl ?_
  refine ev_aload_n dL_crease_0 rfl ?_
  refine ev_iconst dL_crease_1 ?_
  refine ev_aload_n dL_crease_2 rfl ?_
  refine ev_iload_n dL_crease_3 rfl ?_
  refine ev_iload_n dL_crease_4 rfl ?_
  refine ev_callT (M' := mF_crease) dL_crease_5 wm_L_15 cv_L_15 rfl rfl (Nat.le_of_ble_eq_true rfl) (ct_Fcrease (d := d) p1 p2 m1 m2 hh0) (Nat.le_refl _) (Nat.le_refl _) rfl (fun v h' q => ?_) (fun xi h' q => ?_)
  · obtain ⟨q1, q2⟩ := q
    obtain ⟨o1, o2⟩ := LO_out q2 hy
    cases hv : lb_creaseR s p m with
    | inr ci => rw [hv] at q1; obtain ⟨xi, q1, -⟩ := q1; cases q1
    | inl wv =>
      rw [hv] at q1
      cases q1
      refine ev_i2l dL_crease_8 ?_
      refine ev_last dL_crease_9 o1 (Int.le_refl 0) (by decide) (by decide) ?_
      refine ev_goto (tgt := 21) dL_crease_10 rfl ?_
      refine ev_iconst dL_crease_21 ?_
      refine ev_ireturn dL_crease_22 rfl ?_
      exact ⟨rfl, o2 _⟩
  · obtain ⟨q1, q2⟩ := q
    cases hv : lb_creaseR s p m with
    | inl wv => rw [hv] at q1; cases q1
    | inr ci =>
      rw [hv] at q1
      obtain ⟨j, q1, q3⟩ := q1
      cases q1
      have hci : ci = 5 ∨ ci = 6 := by revert hv; unfold lb_creaseR; (repeat' split) <;> intro q <;> cases q <;> first | exact Or.inl rfl | exact Or.inr rfl
      rcases hci with rfl | rfl
      · refine ⟨5, 13, q3, ⟨"java/lang/IllegalArgumentException", rfl, by decide +kernel, Or.inl ⟨0, 10, 13, [(0, 10, 17, 19)], rfl, by decide, by decide, ev_inB 169 rfl rfl⟩⟩, ?_⟩
        refine ev_astore dL_crease_13 (Nat.le_of_ble_eq_true rfl) ?_
        refine ev_iconst dL_crease_15 ?_
        refine ev_ireturn dL_crease_16 rfl ?_
        exact ⟨rfl, q2⟩
      · refine ⟨6, 17, q3, ⟨"java/lang/UnsupportedOperationException", rfl, by decide +kernel, Or.inr ⟨0, 10, 13, 13, 0, 10, 19, [], "java/lang/IllegalArgumentException", rfl, by decide, by decide, by decide, by decide, ev_inB 169 rfl rfl, ev_inC 5 rfl rfl, by decide +kernel⟩⟩, ?_⟩
        refine ev_astore dL_crease_17 (Nat.le_of_ble_eq_true rfl) ?_
        refine ev_iconst dL_crease_19 ?_
        refine ev_ireturn dL_crease_20 rfl ?_
        exact ⟨rfl, q2⟩
theorem ct_Lsegment {i w : Int} (i1 : -2147483648 ≤ i) (i2 : i < 2147483648) (w1 : -2147483648 ≤ w) (w2 : w < 2147483648) (hy : mc[15]? = some (ev_la 1 F)) (hh : LO s ty rs S mc e kn h) :
    ev_CW g mL_segment (d + 7) [.ref 0, ev_i i, ev_i w, .ref 31] h 1 6 (lw_out (lb_seg s i w) cd_O F mc (fun mc' => LO s ty rs S mc' e kn)) := by
  have hh0 := hh
  obtain ⟨fo, kr, R, A, mk, x, tl, hL, hr, hk, hA⟩ := hh
  obtain ⟨ok, B, lo, hi, rfl, gvv⟩ := hL
  refine ev_ofCW (by decide +kernel) (Nat.le_of_ble_eq_true rfl) rfl rfl ?_
  refine ev_aload_n dL_segment_0 rfl ?_
  refine ev_iconst dL_segment_1 ?_
  refine ev_aload_n dL_segment_2 rfl ?_
  refine ev_iload_n dL_segment_3 rfl ?_
  refine ev_iload_n dL_segment_4 rfl ?_
  refine ev_callT (M' := mF_segment) dL_segment_5 wm_L_21 cv_L_21 rfl rfl (Nat.le_of_ble_eq_true rfl) (ct_Fsegment (d := d) i1 i2 w1 w2 hh0) (Nat.le_refl _) (Nat.le_refl _) rfl (fun v h' q => ?_) (fun xi h' q => ?_)
  · obtain ⟨q1, q2⟩ := q
    obtain ⟨o1, o2⟩ := LO_out q2 hy
    cases hv : lb_seg s i w with
    | inr ci => rw [hv] at q1; obtain ⟨xi, q1, -⟩ := q1; cases q1
    | inl wv =>
      rw [hv] at q1
      cases q1
      refine ev_i2l dL_segment_8 ?_
      refine ev_last dL_segment_9 o1 (Int.le_refl 0) (by decide) (by decide) ?_
      refine ev_goto (tgt := 21) dL_segment_10 rfl ?_
      refine ev_iconst dL_segment_21 ?_
      refine ev_ireturn dL_segment_22 rfl ?_
      exact ⟨rfl, o2 _⟩
  · obtain ⟨q1, q2⟩ := q
    cases hv : lb_seg s i w with
    | inl wv => rw [hv] at q1; cases q1
    | inr ci =>
      rw [hv] at q1
      obtain ⟨j, q1, q3⟩ := q1
      cases q1
      have hci : ci = 7 ∨ ci = 5 := by revert hv; unfold lb_seg; (repeat' split) <;> intro q <;> cases q <;> first | exact Or.inl rfl | exact Or.inr rfl
      rcases hci with rfl | rfl
      · refine ⟨7, 13, q3, ⟨"java/lang/IndexOutOfBoundsException", rfl, by decide +kernel, Or.inl ⟨0, 10, 24, [(0, 10, 17, 13)], rfl, by decide, by decide, ev_inC 30 rfl rfl⟩⟩, ?_⟩
        refine ev_astore dL_segment_13 (Nat.le_of_ble_eq_true rfl) ?_
        refine ev_iconst dL_segment_15 ?_
        refine ev_ireturn dL_segment_16 rfl ?_
        exact ⟨rfl, q2⟩
      · refine ⟨5, 17, q3, ⟨"java/lang/IllegalArgumentException", rfl, by decide +kernel, Or.inr ⟨0, 10, 13, 24, 0, 10, 13, [], "java/lang/IndexOutOfBoundsException", rfl, by decide, by decide, by decide, by decide, ev_inC 30 rfl rfl, ev_inB 169 rfl rfl, by decide +kernel⟩⟩, ?_⟩
        refine ev_astore dL_segment_17 (Nat.le_of_ble_eq_true rfl) ?_
        refine ev_iconst dL_segment_19 ?_
        refine ev_ireturn dL_segment_20 rfl ?_
        exact ⟨rfl, q2⟩
theorem ct_Lstep {i w : Int} (i1 : -2147483648 ≤ i) (i2 : i < 2147483648) (w1 : -2147483648 ≤ w) (w2 : w < 2147483648) (hy : mc[15]? = some (ev_la 1 F)) (hh : LO s ty rs S mc e kn h) :
    ev_CW g mL_step (d + 7) [.ref 0, ev_i i, ev_i w, .ref 31] h 1 6 (lw_out (lb_step s rs i w) cd_O F mc (fun mc' => LO s ty (if i < 0 then rs else rd_go s rs) S mc' e kn)) := by
  have hh0 := hh
  obtain ⟨fo, kr, R, A, mk, x, tl, hL, hr, hk, hA⟩ := hh
  obtain ⟨ok, B, lo, hi, rfl, gvv⟩ := hL
  refine ev_ofCW (by decide +kernel) (Nat.le_of_ble_eq_true rfl) rfl rfl ?_
  refine ev_aload_n dL_step_0 rfl ?_
  refine ev_iconst dL_step_1 ?_
  refine ev_aload_n dL_step_2 rfl ?_
  refine ev_iload_n dL_step_3 rfl ?_
  refine ev_iload_n dL_step_4 rfl ?_
  refine ev_callT (M' := mF_step) dL_step_5 wm_L_30 cv_L_30 rfl rfl (Nat.le_of_ble_eq_true rfl) (ct_Fstep (d := d) i1 i2 w1 w2 hh0) (Nat.le_refl _) (Nat.le_refl _) rfl (fun v h' q => ?_) (fun xi h' q => ?_)
  · obtain ⟨q1, q2⟩ := q
    obtain ⟨o1, o2⟩ := LO_out q2 hy
    cases hv : lb_step s rs i w with
    | inr ci => rw [hv] at q1; obtain ⟨xi, q1, -⟩ := q1; cases q1
    | inl wv =>
      rw [hv] at q1
      cases q1
      refine ev_i2l dL_step_8 ?_
      refine ev_last dL_step_9 o1 (Int.le_refl 0) (by decide) (by decide) ?_
      refine ev_goto (tgt := 21) dL_step_10 rfl ?_
      refine ev_iconst dL_step_21 ?_
      refine ev_ireturn dL_step_22 rfl ?_
      exact ⟨rfl, o2 _⟩
  · obtain ⟨q1, q2⟩ := q
    cases hv : lb_step s rs i w with
    | inl wv => rw [hv] at q1; cases q1
    | inr ci =>
      rw [hv] at q1
      obtain ⟨j, q1, q3⟩ := q1
      cases q1
      have hci : ci = 7 ∨ ci = 5 := by revert hv; unfold lb_step; (repeat' split) <;> intro q <;> cases q <;> first | exact Or.inl rfl | exact Or.inr rfl
      rcases hci with rfl | rfl
      · refine ⟨7, 13, q3, ⟨"java/lang/IndexOutOfBoundsException", rfl, by decide +kernel, Or.inl ⟨0, 10, 24, [(0, 10, 17, 13)], rfl, by decide, by decide, ev_inC 30 rfl rfl⟩⟩, ?_⟩
        refine ev_astore dL_step_13 (Nat.le_of_ble_eq_true rfl) ?_
        refine ev_iconst dL_step_15 ?_
        refine ev_ireturn dL_step_16 rfl ?_
        exact ⟨rfl, q2⟩
      · refine ⟨5, 17, q3, ⟨"java/lang/IllegalArgumentException", rfl, by decide +kernel, Or.inr ⟨0, 10, 13, 24, 0, 10, 13, [], "java/lang/IndexOutOfBoundsException", rfl, by decide, by decide, by decide, by decide, ev_inC 30 rfl rfl, ev_inB 169 rfl rfl, by decide +kernel⟩⟩, ?_⟩
        refine ev_astore dL_step_17 (Nat.le_of_ble_eq_true rfl) ?_
        refine ev_iconst dL_step_19 ?_
        refine ev_ireturn dL_step_20 rfl ?_
        exact ⟨rfl, q2⟩
theorem ct_Ltype {w : Int} (w1 : -2147483648 ≤ w) (w2 : w < 2147483648) (t0 : 0 ≤ ty) (t1 : ty ≤ 60) (hy : mc[15]? = some (ev_la 1 F)) (hh : LO s ty rs S mc e kn h) :
    ev_CW g mL_type (d + 7) [.ref 0, ev_i w, .ref 31] h 1 6 (lw_out (lb_type ty w) cd_A F mc (fun mc' => LO s (if (32 ≤ w ∧ w ≤ 126) ∧ ty < 60 then ty + 1 else ty) rs (if (32 ≤ w ∧ w ≤ 126) ∧ ty < 60 then ev_up S ty w else S) mc' e kn)) := by
  have hh0 := hh
  obtain ⟨fo, kr, R, A, mk, x, tl, hL, hr, hk, hA⟩ := hh
  obtain ⟨ok, B, lo, hi, rfl, gvv⟩ := hL
  refine ev_ofCW (by decide +kernel) (Nat.le_of_ble_eq_true rfl) rfl rfl ?_
  refine ev_aload_n dL_type_0 rfl ?_
  refine ev_iconst dL_type_1 ?_
  refine ev_aload_n dL_type_2 rfl ?_
  refine ev_iload_n dL_type_3 rfl ?_
  refine ev_callT (M' := mF_type) dL_type_4 wm_L_40 cv_L_40 rfl rfl (Nat.le_of_ble_eq_true rfl) (ct_Ftype (d := d) w1 w2 t0 t1 hh0) (Nat.le_refl _) (Nat.le_refl _) rfl (fun v h' q => ?_) (fun xi h' q => ?_)
  · obtain ⟨q1, q2⟩ := q
    obtain ⟨o1, o2⟩ := LO_out q2 hy
    cases hv : lb_type ty w with
    | inr ci => rw [hv] at q1; obtain ⟨xi, q1, -⟩ := q1; cases q1
    | inl wv =>
      rw [hv] at q1
      cases q1
      refine ev_i2l dL_type_7 ?_
      refine ev_last dL_type_8 o1 (Int.le_refl 0) (by decide) (by decide) ?_
      refine ev_goto (tgt := 18) dL_type_9 rfl ?_
      refine ev_iconst dL_type_18 ?_
      refine ev_ireturn dL_type_19 rfl ?_
      exact ⟨rfl, o2 _⟩
  · obtain ⟨q1, q2⟩ := q
    cases hv : lb_type ty w with
    | inl wv => rw [hv] at q1; cases q1
    | inr ci =>
      rw [hv] at q1
      obtain ⟨j, q1, q3⟩ := q1
      cases q1
      have hci : ci = 5 ∨ ci = 6 := by revert hv; unfold lb_type; (repeat' split) <;> intro q <;> cases q <;> first | exact Or.inl rfl | exact Or.inr rfl
      rcases hci with rfl | rfl
      · refine ⟨5, 12, q3, ⟨"java/lang/IllegalArgumentException", rfl, by decide +kernel, Or.inl ⟨0, 9, 13, [(0, 9, 15, 19)], rfl, by decide, by decide, ev_inB 169 rfl rfl⟩⟩, ?_⟩
        refine ev_astore_n dL_type_12 (Nat.le_of_ble_eq_true rfl) ?_
        refine ev_iconst dL_type_13 ?_
        refine ev_ireturn dL_type_14 rfl ?_
        exact ⟨rfl, q2⟩
      · refine ⟨6, 15, q3, ⟨"java/lang/UnsupportedOperationException", rfl, by decide +kernel, Or.inr ⟨0, 9, 12, 13, 0, 9, 19, [], "java/lang/IllegalArgumentException", rfl, by decide, by decide, by decide, by decide, ev_inB 169 rfl rfl, ev_inC 5 rfl rfl, by decide +kernel⟩⟩, ?_⟩
        refine ev_astore_n dL_type_15 (Nat.le_of_ble_eq_true rfl) ?_
        refine ev_iconst dL_type_16 ?_
        refine ev_ireturn dL_type_17 rfl ?_
        exact ⟨rfl, q2⟩
theorem ct_Labove {i a b : Int} (i1 : -2147483648 ≤ i) (i2 : i < 2147483648) (a1 : -2147483648 ≤ a) (a2 : a < 2147483648) (b1 : -2147483648 ≤ b) (b2 : b < 2147483648) (hy : mc[15]? = some (ev_la 1 F)) (hh : LO s ty rs S mc e kn h) :
    ev_CW g mL_above (d + 28) [.ref 0, ev_i i, ev_i a, ev_i b, .ref 31] h (ly_e kn e s - e + 1) (128 * 2 ^ ly_e kn e s - 128 * 2 ^ e + 6) (lw_out (lb_above s i a b) cd_O F mc (fun mc' => LO s ty rs S mc' (ly_e kn e s) true)) := by
  have hh0 := hh
  obtain ⟨fo, kr, R, A, mk, x, tl, hL, hr, hk, hA⟩ := hh
  obtain ⟨ok, B, lo, hi, rfl, gvv⟩ := hL
  refine ev_ofCW (by decide +kernel) (Nat.le_of_ble_eq_true rfl) rfl rfl ?_
  refine ev_aload dL_above_0 rfl ?_
  refine ev_iconst dL_above_2 ?_
  refine ev_aload_n dL_above_3 rfl ?_
  refine ev_iload_n dL_above_4 rfl ?_
  refine ev_iload_n dL_above_5 rfl ?_
  refine ev_iload_n dL_above_6 rfl ?_
  refine ev_callT (M' := mF_above) dL_above_7 wm_L_33 cv_L_33 rfl rfl (Nat.le_of_ble_eq_true rfl) (ct_Fabove (d := d) i1 i2 a1 a2 b1 b2 hh0) (Nat.le_refl _) (Nat.le_refl _) rfl (fun v h' q => ?_) (fun xi h' q => ?_)
  · obtain ⟨q1, q2⟩ := q
    obtain ⟨o1, o2⟩ := LO_out q2 hy
    cases hv : lb_above s i a b with
    | inr ci => rw [hv] at q1; obtain ⟨xi, q1, -⟩ := q1; cases q1
    | inl wv =>
      rw [hv] at q1
      cases q1
      refine ev_i2l dL_above_10 ?_
      refine ev_last dL_above_11 o1 (Int.le_refl 0) (by decide) (by decide) ?_
      refine ev_goto (tgt := 19) dL_above_12 rfl ?_
      refine ev_iconst dL_above_19 ?_
      refine ev_ireturn dL_above_20 rfl ?_
      exact ⟨rfl, o2 _⟩
  · obtain ⟨q1, q2⟩ := q
    cases hv : lb_above s i a b with
    | inl wv => rw [hv] at q1; cases q1
    | inr ci =>
      rw [hv] at q1
      obtain ⟨j, q1, q3⟩ := q1
      cases q1
      have hci : ci = 7 := by revert hv; unfold lb_above; (repeat' split) <;> intro q <;> cases q <;> rfl
      subst hci
      refine ⟨7, 15, q3, ⟨"java/lang/IndexOutOfBoundsException", rfl, by decide +kernel, Or.inl ⟨0, 12, 24, [], rfl, by decide, by decide, ev_inC 30 rfl rfl⟩⟩, ?_⟩
      refine ev_astore dL_above_15 (Nat.le_of_ble_eq_true rfl) ?_
      refine ev_iconst dL_above_17 ?_
      refine ev_ireturn dL_above_18 rfl ?_
      exact ⟨rfl, q2⟩
theorem ct_Llayer {i a b : Int} (i1 : -2147483648 ≤ i) (i2 : i < 2147483648) (a1 : -2147483648 ≤ a) (a2 : a < 2147483648) (b1 : -2147483648 ≤ b) (b2 : b < 2147483648) (hy : mc[15]? = some (ev_la 1 F)) (hh : LO s ty rs S mc e kn h) :
    ev_CW g mL_layer (d + 28) [.ref 0, ev_i i, ev_i a, ev_i b, .ref 31] h (ly_e kn e s - e + 1) (128 * 2 ^ ly_e kn e s - 128 * 2 ^ e + 6) (lw_out (lb_layer s i a b) cd_O F mc (fun mc' => LO s ty rs S mc' (ly_e kn e s) true)) := by
  have hh0 := hh
  obtain ⟨fo, kr, R, A, mk, x, tl, hL, hr, hk, hA⟩ := hh
  obtain ⟨ok, B, lo, hi, rfl, gvv⟩ := hL
  refine ev_ofCW (by decide +kernel) (Nat.le_of_ble_eq_true rfl) rfl rfl ?_
  refine ev_aload dL_layer_0 rfl ?_
  refine ev_iconst dL_layer_2 ?_
  refine ev_aload_n dL_layer_3 rfl ?_
  refine ev_iload_n dL_layer_4 rfl ?_
  refine ev_iload_n dL_layer_5 rfl ?_
  refine ev_iload_n dL_layer_6 rfl ?_
  refine ev_callT (M' := mF_layer) dL_layer_7 wm_L_37 cv_L_37 rfl rfl (Nat.le_of_ble_eq_true rfl) (ct_Flayer (d := d) i1 i2 a1 a2 b1 b2 hh0) (Nat.le_refl _) (Nat.le_refl _) rfl (fun v h' q => ?_) (fun xi h' q => ?_)
  · obtain ⟨q1, q2⟩ := q
    obtain ⟨o1, o2⟩ := LO_out q2 hy
    cases hv : lb_layer s i a b with
    | inr ci => rw [hv] at q1; obtain ⟨xi, q1, -⟩ := q1; cases q1
    | inl wv =>
      rw [hv] at q1
      cases q1
      refine ev_i2l dL_layer_10 ?_
      refine ev_last dL_layer_11 o1 (Int.le_refl 0) (by decide) (by decide) ?_
      refine ev_goto (tgt := 19) dL_layer_12 rfl ?_
      refine ev_iconst dL_layer_19 ?_
      refine ev_ireturn dL_layer_20 rfl ?_
      exact ⟨rfl, o2 _⟩
  · obtain ⟨q1, q2⟩ := q
    cases hv : lb_layer s i a b with
    | inl wv => rw [hv] at q1; cases q1
    | inr ci =>
      rw [hv] at q1
      obtain ⟨j, q1, q3⟩ := q1
      cases q1
      have hci : ci = 7 := by revert hv; unfold lb_layer; (repeat' split) <;> intro q <;> cases q <;> rfl
      subst hci
      refine ⟨7, 15, q3, ⟨"java/lang/IndexOutOfBoundsException", rfl, by decide +kernel, Or.inl ⟨0, 12, 24, [], rfl, by decide, by decide, ev_inC 30 rfl rfl⟩⟩, ?_⟩
      refine ev_astore dL_layer_15 (Nat.le_of_ble_eq_true rfl) ?_
      refine ev_iconst dL_layer_17 ?_
      refine ev_ireturn dL_layer_18 rfl ?_
      exact ⟨rfl, q2⟩
end WT

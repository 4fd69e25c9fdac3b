/-! The law's wrappers with an out -/
def lw_out (r : Int ⊕ Nat) (cd : Nat → Int) (F : Nat → Int64) (mc : List ev_AC) (P : List ev_AC → List ev_AC → Prop) (o : ev_O) (h' : List ev_AC) : Prop := match r with
  | .inl v => o = .inl (some (ev_i 0)) ∧ P (mc.set 15 (ev_la 1 (vp_updL F 0 (Int32.ofInt v).toInt64))) h'
  | .inr ci => o = .inl (some (ev_i (cd ci))) ∧ P mc h'
def cd_A (ci : Nat) : Int := if ci = 5 then 1 else 2
def cd_O (ci : Nat) : Int := if ci = 7 then 1 else 2
section WS
variable {g : ev_G} {d : Nat} {s : SG} {ty : Int} {rs : RS} {kn : Bool} {S : Int → Int} {mc : List ev_AC} {e : Nat} {h : List ev_AC} {F : Nat → Int64}
theorem LO_out (hh : LO s ty rs S mc e kn h) {y : ev_AC} (hy : mc[15]? = some y) : h[31]? = some y ∧ ∀ x, LO s ty rs S (mc.set 15 x) e kn (h.set 31 x) := by
  obtain ⟨fo, kr, R, A, mk, x0, tl, hL, hr, hk, hA⟩ := hh
  obtain ⟨ok, B, lo, hi, rfl, gvv⟩ := hL
  have hlt : 15 < mc.length := (List.getElem?_eq_some_iff.mp hy).1
  have hm : (mc ++ tl)[15]? = some y := by rw [List.getElem?_append_left hlt]; exact hy
  refine ⟨hm, fun x => ⟨fo, kr, R, A, mk, x0, tl, ⟨ok, B, lo, hi, ?_, gvv⟩, ?_, by rw [List.length_set]; exact hk, hA⟩⟩
  · rw [← List.set_append_left _ _ hlt]
    rfl
  · rw [← List.set_append_left _ _ hlt]
    refine ⟨?_, hr.2⟩
    have h1 := hr.1
    have h2 : (x0 :: ev_ia 60 S :: (mc ++ tl)).set 17 x = x0 :: ev_ia 60 S :: (mc ++ tl).set 15 x := rfl
    rw [← h2, List.getElem?_set_ne (by omega)]
    exact h1
theorem ct_LwhereIs {p : Int} (p1 : -2147483648 ≤ p) (p2 : p < 2147483648) (hy : mc[15]? = some (ev_la 1 F)) (hh : LO s ty rs S mc e kn h) :
    ev_CW g mL_whereIs (d + 7) [.ref 0, ev_i p, .ref 31] h 1 6 (lw_out (lb_where s p) cd_A F mc (fun mc' => LO s ty rs S mc' e kn)) := by
  have hh0 := hh
  obtain ⟨fo, kr, R, A, mk, x, tl, hL, hr, hk, hA⟩ := hh
  obtain ⟨ok, B, lo, hi, rfl, gvv⟩ := hL
  refine ev_ofCW (by decide +kernel) (Nat.le_of_ble_eq_true rfl) rfl rfl ?_
  refine ev_aload_n dL_whereIs_0 rfl ?_
  refine ev_iconst dL_whereIs_1 ?_
  refine ev_aload_n dL_whereIs_2 rfl ?_
  refine ev_iload_n dL_whereIs_3 rfl ?_
  refine ev_callT (M' := mF_whereIs) dL_whereIs_4 wm_L_26 cv_L_26 rfl rfl (Nat.le_of_ble_eq_true rfl) (ct_FwhereIs (d := d) p1 p2 hh0) (Nat.le_refl _) (Nat.le_refl _) rfl (fun v h' q => ?_) (fun i h' q => ?_)
  · obtain ⟨q1, q2⟩ := q
    obtain ⟨o1, o2⟩ := LO_out q2 hy
    cases hv : lb_where s p with
    | inr ci => rw [hv] at q1; obtain ⟨i, q1, -⟩ := q1; cases q1
    | inl w =>
      rw [hv] at q1
      cases q1
      refine ev_i2l dL_whereIs_7 ?_
      refine ev_last dL_whereIs_8 o1 (Int.le_refl 0) (by decide) (by decide) ?_
      refine ev_goto (tgt := 15) dL_whereIs_9 rfl ?_
      refine ev_iconst dL_whereIs_15 ?_
      refine ev_ireturn dL_whereIs_16 rfl ?_
      exact ⟨rfl, o2 _⟩
  · obtain ⟨q1, q2⟩ := q
    unfold lb_where at q1 ⊢
    split at q1
    · rename_i hc
      rw [if_pos hc]
      obtain ⟨j, q1, q3⟩ := q1
      cases q1
      refine ⟨5, 12, q3, ⟨"java/lang/IllegalArgumentException", rfl, by decide +kernel, Or.inl ⟨0, 9, 13, [], rfl, by decide, by decide, ev_inB 169 rfl rfl⟩⟩, ?_⟩
      refine ev_astore_n dL_whereIs_12 (Nat.le_of_ble_eq_true rfl) ?_
      refine ev_iconst dL_whereIs_13 ?_
      refine ev_ireturn dL_whereIs_14 rfl ?_
      exact ⟨rfl, q2⟩
    · cases q1
end WS

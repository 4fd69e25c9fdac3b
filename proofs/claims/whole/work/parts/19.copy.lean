/-! System.arraycopy from the start of one int array to the start of another -/
section EVA
variable {g : ev_G} {X : Bool} {M : ev_M} {d pc : Nat} {ls : List (Option Value)} {st : List Value} {h : List ev_AC} {kc ks : Nat} {Q : ev_O → List ev_AC → Prop}
theorem ev_acopy {idx a b n0 n1 m : Nat} {F G : Int → Int} (hd : decode M.2.1 pc = .ok (.invokestatic idx, 3)) (w1 : Cond.methodLink M.1.cls idx arraycopyName ∈ ev_WS) (ha : h[a]? = some (ev_ia n0 F)) (hb : h[b]? = some (ev_ia n1 G)) (h0 : m ≤ n0) (h1 : m ≤ n1) (hm : m < 2147483648) (hs : (st.map fun v => v.category).sum ≤ 8)
    (kk : ev_E g X M (d + 1) (pc + 3) ls st (h.set b (ev_ia n1 (ev_ov F G m))) kc ks Q) : ev_E g X M (d + 1) pc ls (ev_i m :: ev_i 0 :: .ref b :: ev_i 0 :: .ref a :: st) h kc ks Q := by
  intro p e R s mm args below meth c H locs cells slots rls C
  obtain ⟨hx, hbb, hml, hown, hts, hK, -⟩ := C.1
  have hs' := ev_rv_sum g st
  have hR := C.2.1
  have z0 : (Int32.ofInt 0).toNatClampNeg = 0 := by decide
  have zm : (Int32.ofInt m).toNatClampNeg = m := by rw [ev_clamp (by omega) (by omega)]; rfl
  have i0 : (Int32.ofInt 0).toInt = 0 := by decide
  have im : (Int32.ofInt m).toInt = m := ev_toInt (by omega) (by omega)
  have n0' : ¬ Int32.ofInt 0 < 0 := by decide
  have nm' : ¬ Int32.ofInt m < 0 := by rw [ev_zero, ev_lt (by omega) (by omega) (by omega) (by omega)]; omega
  intro T hT S
  have hc0 : H[ev_z g + a]? = some (vp_cell (ev_I g) (n0, .inl (fun j => Int32.ofInt (F (j : Int))))) := C.2.2.1.2.2 a _ (ev_rl_at ha)
  have hc1 : H[ev_z g + b]? = some (vp_cell (ev_I g) (n1, .inl (fun j => Int32.ofInt (G (j : Int))))) := C.2.2.1.2.2 b _ (ev_rl_at hb)
  obtain ⟨-, k0, hk0, cm0, hkk0⟩ := (hK.2 0 _ rfl).1 n0 (fun j => .int (Int32.ofInt (F (j : Int))))
  obtain ⟨-, k1, hk1, cm1, hkk1⟩ := (hK.2 0 _ rfl).1 n1 (fun j => .int (Int32.ofInt (G (j : Int))))
  obtain ⟨vm', S', step⟩ := S.arraycopy hx hown (hts _ w1) (hts _ wcopy_n) (hts _ wcopy_s) (hts _ wi_System) (src := ev_z g + a) (dst := ev_z g + b) (cs := vp_cell (ev_I g) (n0, .inl (fun j => Int32.ofInt (F (j : Int))))) (cd := vp_cell (ev_I g) (n1, .inl (fun j => Int32.ofInt (G (j : Int))))) (srcPos := Int32.ofInt 0) (destPos := Int32.ofInt 0) (n := Int32.ofInt m) (by rw [hT]; exact hc0) (by rw [hT]; exact hc1)
    (fun _ q => by cases q) (fun _ q => by cases q) (fun q => by cases q) (fun q => by cases q) hk0 hk1 hkk0 hkk1 rfl n0' n0' nm'
    (by rw [i0, im]; show ¬ _ > ((arrV _ n0 _).slots.size : Int); rw [arrV_size]; omega)
    (by rw [i0, im]; show ¬ _ > ((arrV _ n1 _).slots.size : Int); rw [arrV_size]; omega)
    (fun vm₁ _ i hi => by
      rw [zm] at hi
      have e : (vp_cell (ev_I g) (n0, .inl (fun j => Int32.ofInt (F (j : Int))))).slots.getD ((Int32.ofInt 0).toNatClampNeg + i) .null = .int (Int32.ofInt (F (i : Int))) := by
        rw [z0, Nat.zero_add]
        show (arrV _ n0 (fun j => .int (Int32.ofInt (F (j : Int))))).slots.getD _ _ = _
        rw [Array.getD_eq_getD_getElem?, arrV_read _ _ (by omega)]
        rfl
      rw [e]
      exact ⟨rfl, trivial⟩)
    (g := F0 mm pc rls ((ev_i m :: ev_i 0 :: .ref b :: ev_i 0 :: .ref a :: st).map (ev_rv g))) rfl (by rw [hml]; exact C.2.2.2.2.2.2.1.1) (rest := st.map (ev_rv g)) rfl (by rw [hbb]; exact hd) (by omega) (by show 2 * 0 + _ + (nativeFrameWords "java/lang/System" "arraycopy" 5 + 11) ≤ _; rw [show nativeFrameWords "java/lang/System" "arraycopy" 5 = 7 by decide +kernel]; omega)
  have e1 : copied (vp_cell (ev_I g) (n0, .inl (fun j => Int32.ofInt (F (j : Int))))) (vp_cell (ev_I g) (n1, .inl (fun j => Int32.ofInt (G (j : Int))))) (Int32.ofInt 0) (Int32.ofInt 0) (Int32.ofInt m) = vp_cell (ev_I g) (n1, .inl (va_cpy (fun j => Int32.ofInt (F (j : Int))) (fun j => Int32.ofInt (G (j : Int))) (Int32.ofInt 0).toNatClampNeg (Int32.ofInt 0).toNatClampNeg (Int32.ofInt m).toNatClampNeg)) :=
    va_copied (fun z => .int z) (ev_I g) (ev_I g) (fun j => Int32.ofInt (F (j : Int))) (fun j => Int32.ofInt (G (j : Int))) (by rw [z0, zm]; omega)
  have e2 : va_cpy (fun j => Int32.ofInt (F (j : Int))) (fun j => Int32.ofInt (G (j : Int))) (Int32.ofInt 0).toNatClampNeg (Int32.ofInt 0).toNatClampNeg (Int32.ofInt m).toNatClampNeg = fun j : Nat => Int32.ofInt (ev_ov F G m (j : Int)) := by
    funext j
    rw [z0, zm]
    unfold va_cpy ev_ov
    by_cases hj : j < m
    · rw [if_pos (by omega), if_pos (by omega)]
      rw [show 0 + (j - 0) = j by omega]
    · rw [if_neg (by omega), if_neg (by omega)]
  rw [e1, e2] at S' step
  have hl : ev_z g + b < H.size := (Array.getElem?_eq_some_iff.mp hc1).1
  have hHR : ev_HR g (h.set b (ev_ia n1 (ev_ov F G m))) ((T.setVm vm').setCell (ev_z g + b) (vp_cell (ev_I g) (n1, .inl (fun j : Nat => Int32.ofInt (ev_ov F G m (j : Int)))))).heap := by
    refine C.2.2.1.set hb ?_ ?_ ?_
    · show (T.heap.setIfInBounds _ _)[ev_z g + b]? = some _
      rw [hT]
      simp [Array.getElem?_setIfInBounds, hl]
    · show (T.heap.setIfInBounds _ _).size = _
      rw [hT]
      simp
    · intro q hq
      show (T.heap.setIfInBounds _ _)[q]? = _
      rw [hT]
      simp [Array.getElem?_setIfInBounds, Ne.symm hq]
  obtain ⟨t, a1, b1⟩ := kk p e R s mm args below meth c _ _ cells slots rls (C.heap hHR (fun q hq => by
      rcases List.mem_append.mp hq with q1 | q1
      · exact C.2.2.2.1 q q1
      · obtain ⟨z, -, hz⟩ := List.mem_map.mp q1
        rw [← hz]
        exact Nat.le_add_right _ _) C.2.2.2.2.1) _ rfl S'
  exact ⟨t, step t a1, b1⟩
theorem ev_app {a : Nat} {x c : ev_AC} (ha : h[a]? = some c) : (h ++ [x])[a]? = some c := by
  rw [List.getElem?_append_left (List.getElem?_eq_some_iff.mp ha).1]
  exact ha
theorem ev_app_l {x : ev_AC} : (h ++ [x])[h.length]? = some x := by simp
theorem ev_app_s {x y : ev_AC} : (h ++ [x]).set h.length y = h ++ [y] := by simp
/-- Arrays.copyOf to a greater length -/
theorem ct_copyOf {a n0 m : Nat} {F : Int → Int} (ha : h[a]? = some (ev_ia n0 F)) (h0 : n0 < m) (hm : m < 8388608) :
    ev_C g mJA_copyOf (d + 1) [.ref a, ev_i m] h 1 m (ev_V (some (.ref h.length)) (h ++ [ev_ia m (ev_ov F (fun _ => 0) n0)])) := by
  refine ev_ofE (by decide +kernel) rfl (Nat.le_of_ble_eq_true rfl) rfl rfl ?_
  refine ev_iload_n dJA_copyOf_0 rfl ?_
  refine ev_aload_n dJA_copyOf_1 rfl ?_
  refine ev_alen dJA_copyOf_2 ha ?_
  refine ev_icmp_ne (tgt := 14) dJA_copyOf_3 rfl (by omega) (by omega) (by omega) (by omega) (fun hb => ?_) (fun hb => ?_)
  · refine ev_iload_n dJA_copyOf_14 rfl ?_
    refine ev_room (kc' := 0 + 1) (ks' := 0 + m) (by omega) (by omega) ?_
    refine ev_nI dJA_copyOf_15 rfl hm ?_
    refine ev_astore_n dJA_copyOf_17 (Nat.le_of_ble_eq_true rfl) ?_
    refine ev_aload_n dJA_copyOf_18 rfl ?_
    refine ev_iconst dJA_copyOf_19 ?_
    refine ev_aload_n dJA_copyOf_20 rfl ?_
    refine ev_iconst dJA_copyOf_21 ?_
    refine ev_aload_n dJA_copyOf_22 rfl ?_
    refine ev_alen dJA_copyOf_23 (ev_app ha) ?_
    refine ev_iload_n dJA_copyOf_24 rfl ?_
    refine ev_min dJA_copyOf_25 wm_JA_304 ws_min wc_min (Nat.le_of_ble_eq_true rfl) (by omega) (by omega) (by omega) (by omega) ?_
    rw [if_neg (by omega)]
    refine ev_acopy dJA_copyOf_28 wm_JA_150 (ev_app ha) ev_app_l (Nat.le_refl _) (by omega) (by omega) (by decide) ?_
    rw [ev_app_s]
    refine ev_aload_n dJA_copyOf_31 rfl ?_
    refine ev_areturn dJA_copyOf_32 rfl ?_
    exact ⟨rfl, rfl⟩
  · omega
end EVA

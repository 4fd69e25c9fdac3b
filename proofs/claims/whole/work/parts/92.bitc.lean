/-! Long.bitCount -/
abbrev l6 (N : Nat) : Int64 := Int64.ofNat N
theorem l6_of (x : Int64) : x = l6 x.toBitVec.toNat := by
  apply Int64.toBitVec_inj.mp
  show x.toBitVec = BitVec.ofNat 64 x.toBitVec.toNat
  rw [BitVec.ofNat_toNat, BitVec.setWidth_eq]
theorem l6_and (a b : Nat) : l6 a &&& l6 b = l6 (a &&& b) := by
  apply Int64.toBitVec_inj.mp
  show BitVec.ofNat 64 a &&& BitVec.ofNat 64 b = BitVec.ofNat 64 (a &&& b)
  rw [BitVec.ofNat_and]
theorem l6_add (a b : Nat) : l6 a + l6 b = l6 (a + b) := by
  apply Int64.toBitVec_inj.mp
  show BitVec.ofNat 64 a + BitVec.ofNat 64 b = BitVec.ofNat 64 (a + b)
  rw [BitVec.ofNat_add]
theorem l6_sub {a b : Nat} (h : b ≤ a) : l6 a - l6 b = l6 (a - b) := by
  apply Int64.toBitVec_inj.mp
  show BitVec.ofNat 64 a - BitVec.ofNat 64 b = BitVec.ofNat 64 (a - b)
  have e : BitVec.ofNat 64 a = BitVec.ofNat 64 (a - b) + BitVec.ofNat 64 b := by rw [← BitVec.ofNat_add, Nat.sub_add_cancel h]
  rw [e, BitVec.add_sub_cancel]
theorem l6_shr {a k : Nat} {y : Int32} (h : a < 2 ^ 64) (hy : (y.toInt64.toUInt64 &&& Int64.toUInt64 63).toNat = k) (hk : k < 64) : ((l6 a).toUInt64 >>> (y.toInt64.toUInt64 &&& Int64.toUInt64 63)).toInt64 = l6 (a >>> k) := by
  have e : (l6 a).toUInt64 >>> (y.toInt64.toUInt64 &&& Int64.toUInt64 63) = UInt64.ofNat (a >>> k) := by
    apply UInt64.toNat_inj.mp
    rw [UInt64.toNat_shiftRight, hy, Nat.mod_eq_of_lt hk]
    have h1 : (l6 a).toUInt64.toNat = a := by
      show (BitVec.ofNat 64 a).toNat = a
      rw [BitVec.toNat_ofNat, Nat.mod_eq_of_lt h]
    have h2 : a >>> k < 2 ^ 64 := Nat.lt_of_le_of_lt (Nat.shiftRight_le a k) h
    rw [h1]
    show a >>> k = (BitVec.ofNat 64 (a >>> k)).toNat
    rw [BitVec.toNat_ofNat, Nat.mod_eq_of_lt h2]
  rw [e]
  rfl
theorem l6_i (a : Nat) : (l6 a).toInt32 = Int32.ofInt (a : Int) := by
  rw [Int32.ofInt_eq_ofNat]
  apply Int32.toBitVec_inj.mp
  show (BitVec.ofNat 64 a).signExtend 32 = BitVec.ofNat 32 a
  rw [BitVec.signExtend_eq_setWidth_of_le _ (by decide)]
  apply BitVec.eq_of_toNat_eq
  rw [BitVec.toNat_setWidth, BitVec.toNat_ofNat, BitVec.toNat_ofNat]
  exact Nat.mod_mod_of_dvd a (by decide)
section BC
variable {g : ev_G} {d : Nat} {h : List ev_AC}
theorem wk_JL_314 : Cond.constantLong RJL 314 (l6 6148914691236517205) ∈ ev_WS := ev_inB 104 rfl rfl
theorem wk_JL_316 : Cond.constantLong RJL 316 (l6 3689348814741910323) ∈ ev_WS := ev_inB 105 rfl rfl
theorem wk_JL_318 : Cond.constantLong RJL 318 (l6 1085102592571150095) ∈ ev_WS := ev_inB 106 rfl rfl
theorem ct_bitEnd {N : Nat} : ev_E g false mJL_bitCount d 57 [none, none] [ev_i (N : Int)] h 0 0 (ev_V (some (ev_i ((N % 128 : Nat) : Int))) h) := by
  refine ev_bipush dJL_bitCount_57 rfl ?_
  refine ev_and (b := 127) dJL_bitCount_59 ?_
  rw [show N &&& 127 = N % 128 from Nat.and_two_pow_sub_one_eq_mod N 7]
  refine ev_ireturn dJL_bitCount_60 rfl ?_
  exact ⟨rfl, rfl⟩
theorem pp_lt {m N : Nat} (hm : m < 2 ^ 62) : pp_2 m N < 2 ^ 63 ∧ pp_3 m N < 2 ^ 62 := by
  unfold pp_2 pp_3
  have h1 : N &&& m ≤ m := Nat.and_le_right
  have h2 : (N >>> 2) &&& m ≤ m := Nat.and_le_right
  have h3 : (N + N >>> 4) &&& m ≤ m := Nat.and_le_right
  have h4 : (2 : Nat) ^ 63 = 2 ^ 62 + 2 ^ 62 := by decide
  omega
theorem ct_bitCount {x : Int64} : ev_C g mJL_bitCount d [.long x] h 0 0 (ev_V (some (ev_i ((pp_n 64 x.toBitVec.toNat : Nat) : Int))) h) := by
  have hN : x.toBitVec.toNat < 2 ^ 64 := x.toBitVec.isLt
  rw [← pp_all_n hN]
  have hx : x = l6 x.toBitVec.toNat := l6_of x
  generalize hNe : x.toBitVec.toNat = N at hN hx ⊢
  subst hx
  refine Met.ofW (cc := mJL_bitCount.2.1) (maxL := mJL_bitCount.2.2.1) (ret := mJL_bitCount.2.2.2.1) (by decide +kernel) rfl ?_
  intro p e s m args below meth c s₁ B hml hv
  obtain ⟨rfl, hH, hK, hNN, hX⟩ := hv
  have hts := atoms_spec (ws := ev_ws mJL_bitCount) B.pre
  rw [lg_entry_eq]
  have htab : c.exceptionTable.toList = tableOf mJL_bitCount.2.2.2.2 := by
    have h1 := B.noHandlers (hts _ List.mem_cons_self)
    have h2 : c.exceptionTable = #[] := by simpa using h1
    rw [h2]; rfl
  have hown : s.vm.findClass RJL = some m.cls := findClass_of_methodNamed B.named
  have he := lv_entry ([Value.long (l6 N)]) (n := 2) (Nat.le_refl 2)
  have hW : ∀ w ∈ ev_WS, w.before _ s = true := fun w hw => hts w (List.mem_cons_of_mem _ hw)
  have hfx : ∀ (args : Array Value), args = ([Value.long (l6 N)].map (ev_rv g)).toArray → ev_Fx g mJL_bitCount p s m args meth c := fun args ha => by
    subst ha
    exact ⟨B.exec, B.bytes, hml, findClass_of_methodNamed B.named, hW, hK, hNN, B.returns, B.notSynchronized, (name_of_methodNamed B.named B.method).1, htab, ⟨h, hH⟩, hX⟩
  have s1le : (N >>> 1) &&& 6148914691236517205 ≤ N := Nat.le_trans Nat.and_le_left (Nat.shiftRight_le N 1)
  have b1 : pp_1 6148914691236517205 N < 2 ^ 64 := Nat.lt_of_le_of_lt (Nat.sub_le _ _) hN
  have b2 : pp_2 3689348814741910323 (pp_1 6148914691236517205 N) < 2 ^ 63 := (pp_lt (by decide)).1
  have b3 : pp_3 1085102592571150095 (pp_2 3689348814741910323 (pp_1 6148914691236517205 N)) < 2 ^ 62 := (pp_lt (by decide)).2
  suffices K : W p (ev_l g) e (headSpec (ev_ws mJL_bitCount) { frames := d, cells := 0, slots := 0, locals := 40 * d }).room s m (List.map (ev_rv g) [Value.long (l6 N)]).toArray below meth c s.heap [] 0 0 (ev_MQ false below (ev_QX g (ev_V (some (ev_i ((pp_all N : Nat) : Int))) h)) (List.map (ev_rv g) [Value.long (l6 N)]).toArray s 0 0 (fun q => ev_z g ≤ q)) (F0 m 0 ((lg_sl ([Value.long (l6 N)]) ++ List.replicate (2 - (lg_sl ([Value.long (l6 N)])).length) Slot.unset).toArray) []) by
    intro T hT S
    obtain ⟨t, a, o, b1, b2, b3, L, b4, b5⟩ := K T hT S
    exact ⟨t, a, o, b1, b2, b3, L, ⟨b4.1.resolve_left (by decide), b4.2⟩, b5⟩
  refine lv_lload_n (i := 0) B.exec B.bytes dJL_bitCount_0 rfl (he.2.2 _ (List.mem_singleton.mpr rfl)) ?_
  refine lv_lload_n (i := 0) B.exec B.bytes dJL_bitCount_1 rfl (he.2.2 _ (List.mem_singleton.mpr rfl)) ?_
  refine lv_iconst B.exec B.bytes dJL_bitCount_2 rfl ?_
  refine lv_lushr B.exec B.bytes dJL_bitCount_3 (l6_shr (k := 1) (by omega) (by decide) (by decide)) ?_
  refine lv_ldc2 (v := l6 6148914691236517205) B.exec B.bytes hown (hW _ wk_JL_314) dJL_bitCount_4 ?_
  refine lv_land B.exec B.bytes dJL_bitCount_7 ?_
  rw [l6_and]
  refine lv_lsub B.exec B.bytes dJL_bitCount_8 ?_
  rw [l6_sub s1le]
  refine lv_lstore_n (i := 0) (nL := 2) (lv' := [(0, Value.long (l6 (pp_1 6148914691236517205 N)))]) B.exec B.bytes dJL_bitCount_9 rfl he (by decide) rfl (fun r1 h1 => ?_)
  refine lv_lload_n (i := 0) B.exec B.bytes dJL_bitCount_10 rfl (h1.2.2 _ (List.mem_singleton.mpr rfl)) ?_
  refine lv_ldc2 (v := l6 3689348814741910323) B.exec B.bytes hown (hW _ wk_JL_316) dJL_bitCount_11 ?_
  refine lv_land B.exec B.bytes dJL_bitCount_14 ?_
  rw [l6_and]
  refine lv_lload_n (i := 0) B.exec B.bytes dJL_bitCount_15 rfl (h1.2.2 _ (List.mem_singleton.mpr rfl)) ?_
  refine lv_iconst B.exec B.bytes dJL_bitCount_16 rfl ?_
  refine lv_lushr B.exec B.bytes dJL_bitCount_17 (l6_shr (k := 2) (by omega) (by decide) (by decide)) ?_
  refine lv_ldc2 (v := l6 3689348814741910323) B.exec B.bytes hown (hW _ wk_JL_316) dJL_bitCount_18 ?_
  refine lv_land B.exec B.bytes dJL_bitCount_21 ?_
  rw [l6_and]
  refine lv_ladd B.exec B.bytes dJL_bitCount_22 ?_
  rw [l6_add]
  refine lv_lstore_n (i := 0) (nL := 2) (lv' := [(0, Value.long (l6 (pp_2 3689348814741910323 (pp_1 6148914691236517205 N))))]) B.exec B.bytes dJL_bitCount_23 rfl h1 (by decide) rfl (fun r2 h2 => ?_)
  refine lv_lload_n (i := 0) B.exec B.bytes dJL_bitCount_24 rfl (h2.2.2 _ (List.mem_singleton.mpr rfl)) ?_
  refine lv_lload_n (i := 0) B.exec B.bytes dJL_bitCount_25 rfl (h2.2.2 _ (List.mem_singleton.mpr rfl)) ?_
  refine lv_iconst B.exec B.bytes dJL_bitCount_26 rfl ?_
  refine lv_lushr B.exec B.bytes dJL_bitCount_27 (l6_shr (k := 4) (by omega) (by decide) (by decide)) ?_
  refine lv_ladd B.exec B.bytes dJL_bitCount_28 ?_
  rw [l6_add]
  refine lv_ldc2 (v := l6 1085102592571150095) B.exec B.bytes hown (hW _ wk_JL_318) dJL_bitCount_29 ?_
  refine lv_land B.exec B.bytes dJL_bitCount_32 ?_
  rw [l6_and]
  refine lv_lstore_n (i := 0) (nL := 2) (lv' := [(0, Value.long (l6 (pp_3 1085102592571150095 (pp_2 3689348814741910323 (pp_1 6148914691236517205 N)))))]) B.exec B.bytes dJL_bitCount_33 rfl h2 (by decide) rfl (fun r3 h3 => ?_)
  refine lv_lload_n (i := 0) B.exec B.bytes dJL_bitCount_34 rfl (h3.2.2 _ (List.mem_singleton.mpr rfl)) ?_
  refine lv_lload_n (i := 0) B.exec B.bytes dJL_bitCount_35 rfl (h3.2.2 _ (List.mem_singleton.mpr rfl)) ?_
  refine lv_bipush B.exec B.bytes dJL_bitCount_36 rfl ?_
  refine lv_lushr B.exec B.bytes dJL_bitCount_38 (l6_shr (k := 8) (by omega) (by decide) (by decide)) ?_
  refine lv_ladd B.exec B.bytes dJL_bitCount_39 ?_
  rw [l6_add]
  refine lv_lstore_n (i := 0) (nL := 2) (lv' := [(0, Value.long (l6 ((pp_3 1085102592571150095 (pp_2 3689348814741910323 (pp_1 6148914691236517205 N))) + (pp_3 1085102592571150095 (pp_2 3689348814741910323 (pp_1 6148914691236517205 N))) >>> 8)))]) B.exec B.bytes dJL_bitCount_40 rfl h3 (by decide) rfl (fun r4 h4 => ?_)
  refine lv_lload_n (i := 0) B.exec B.bytes dJL_bitCount_41 rfl (h4.2.2 _ (List.mem_singleton.mpr rfl)) ?_
  refine lv_lload_n (i := 0) B.exec B.bytes dJL_bitCount_42 rfl (h4.2.2 _ (List.mem_singleton.mpr rfl)) ?_
  refine lv_bipush B.exec B.bytes dJL_bitCount_43 rfl ?_
  refine lv_lushr B.exec B.bytes dJL_bitCount_45 (l6_shr (k := 16) (by omega) (by decide) (by decide)) ?_
  refine lv_ladd B.exec B.bytes dJL_bitCount_46 ?_
  rw [l6_add]
  refine lv_lstore_n (i := 0) (nL := 2) (lv' := [(0, Value.long (l6 (((pp_3 1085102592571150095 (pp_2 3689348814741910323 (pp_1 6148914691236517205 N))) + (pp_3 1085102592571150095 (pp_2 3689348814741910323 (pp_1 6148914691236517205 N))) >>> 8) + ((pp_3 1085102592571150095 (pp_2 3689348814741910323 (pp_1 6148914691236517205 N))) + (pp_3 1085102592571150095 (pp_2 3689348814741910323 (pp_1 6148914691236517205 N))) >>> 8) >>> 16)))]) B.exec B.bytes dJL_bitCount_47 rfl h4 (by decide) rfl (fun r5 h5 => ?_)
  refine lv_lload_n (i := 0) B.exec B.bytes dJL_bitCount_48 rfl (h5.2.2 _ (List.mem_singleton.mpr rfl)) ?_
  refine lv_lload_n (i := 0) B.exec B.bytes dJL_bitCount_49 rfl (h5.2.2 _ (List.mem_singleton.mpr rfl)) ?_
  refine lv_bipush B.exec B.bytes dJL_bitCount_50 rfl ?_
  refine lv_lushr B.exec B.bytes dJL_bitCount_52 (l6_shr (k := 32) (by omega) (by decide) (by decide)) ?_
  refine lv_ladd B.exec B.bytes dJL_bitCount_53 ?_
  rw [l6_add]
  refine lv_lstore_n (i := 0) (nL := 2) (lv' := [(0, Value.long (l6 ((((pp_3 1085102592571150095 (pp_2 3689348814741910323 (pp_1 6148914691236517205 N))) + (pp_3 1085102592571150095 (pp_2 3689348814741910323 (pp_1 6148914691236517205 N))) >>> 8) + ((pp_3 1085102592571150095 (pp_2 3689348814741910323 (pp_1 6148914691236517205 N))) + (pp_3 1085102592571150095 (pp_2 3689348814741910323 (pp_1 6148914691236517205 N))) >>> 8) >>> 16) + (((pp_3 1085102592571150095 (pp_2 3689348814741910323 (pp_1 6148914691236517205 N))) + (pp_3 1085102592571150095 (pp_2 3689348814741910323 (pp_1 6148914691236517205 N))) >>> 8) + ((pp_3 1085102592571150095 (pp_2 3689348814741910323 (pp_1 6148914691236517205 N))) + (pp_3 1085102592571150095 (pp_2 3689348814741910323 (pp_1 6148914691236517205 N))) >>> 8) >>> 16) >>> 32)))]) B.exec B.bytes dJL_bitCount_54 rfl h5 (by decide) rfl (fun r6 h6 => ?_)
  refine lv_lload_n (i := 0) B.exec B.bytes dJL_bitCount_55 rfl (h6.2.2 _ (List.mem_singleton.mpr rfl)) ?_
  refine lv_l2i B.exec B.bytes dJL_bitCount_56 (l6_i _) ?_
  have h7 : lv_has r6 2 [] := ⟨h6.1, h6.2.1, fun q hq => by cases hq⟩
  have fin := ct_bitEnd (g := g) (d := d) (h := h) (N := (pp_3 1085102592571150095 (pp_2 3689348814741910323 (pp_1 6148914691236517205 N))) + (pp_3 1085102592571150095 (pp_2 3689348814741910323 (pp_1 6148914691236517205 N))) >>> 8 + ((pp_3 1085102592571150095 (pp_2 3689348814741910323 (pp_1 6148914691236517205 N))) + (pp_3 1085102592571150095 (pp_2 3689348814741910323 (pp_1 6148914691236517205 N))) >>> 8) >>> 16 + ((pp_3 1085102592571150095 (pp_2 3689348814741910323 (pp_1 6148914691236517205 N))) + (pp_3 1085102592571150095 (pp_2 3689348814741910323 (pp_1 6148914691236517205 N))) >>> 8 + ((pp_3 1085102592571150095 (pp_2 3689348814741910323 (pp_1 6148914691236517205 N))) + (pp_3 1085102592571150095 (pp_2 3689348814741910323 (pp_1 6148914691236517205 N))) >>> 8) >>> 16) >>> 32) p e { frames := d, cells := 0, slots := 0, locals := 40 * d } s m _ below meth c s.heap [] 0 0 r6
    ⟨hfx _ rfl, ⟨Nat.le_refl _, Nat.le_refl _⟩, hH, (fun q hq => by cases hq), ⟨Nat.le_refl _, Nat.le_refl _⟩, rfl, h7, fun i v hi => by
      rcases i with _ | _ | i
      · cases hi
      · cases hi
      · simp at hi⟩
  exact fin
end BC

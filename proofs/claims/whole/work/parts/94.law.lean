/-! The law's loop (written by wip/gen/genl.py) -/
theorem cr_same {s : SG} {p m : Int} : (lb_crease s p m).1 = mo_c cd_A (lb_creaseR s p m) ∧ lb_crV s p m = mo_v (lb_creaseR s p m) := by
  have hb : 0 ≤ (lb_crease s p m).1 ∧ (lb_crease s p m).1 ≤ 2 := sp_jd_bd
  unfold lb_crV lb_creaseR
  by_cases h1 : (lb_crease s p m).1 = 1
  · rw [if_pos h1, if_neg (by omega), h1]
    exact ⟨rfl, rfl⟩
  · by_cases h2 : (lb_crease s p m).1 = 2
    · rw [if_neg h1, if_pos h2, if_neg (by omega), h2]
      exact ⟨rfl, rfl⟩
    · rw [if_neg h1, if_neg h2, if_pos (by omega)]
      exact ⟨show (lb_crease s p m).1 = 0 by omega, rfl⟩
theorem ty_t {ty w : Int} (t0 : 0 ≤ ty) (t1 : ty ≤ 60) : 0 ≤ (if (32 ≤ w ∧ w ≤ 126) ∧ ty < 60 then ty + 1 else ty) ∧ (if (32 ≤ w ∧ w ≤ 126) ∧ ty < 60 then ty + 1 else ty) ≤ 60 := by
  split <;> omega
theorem ty_S {ty w : Int} {S : Int → Int} (t0 : 0 ≤ ty) (hS : ∀ i, 0 ≤ i → i < 60 → 0 ≤ S i ∧ S i ≤ 126) : ∀ i, 0 ≤ i → i < 60 → 0 ≤ (if (32 ≤ w ∧ w ≤ 126) ∧ ty < 60 then ev_up S ty w else S) i ∧ (if (32 ≤ w ∧ w ≤ 126) ∧ ty < 60 then ev_up S ty w else S) i ≤ 126 := by
  intro i i0 i1
  by_cases h : (32 ≤ w ∧ w ≤ 126) ∧ ty < 60
  · rw [if_pos h]
    unfold ev_up
    split
    · omega
    · exact hS i i0 i1
  · rw [if_neg h]
    exact hS i i0 i1
def law_I (g : ev_G) (d : Nat) (u : UInt32) (k : Nat) : Prop := ∀ (i : Int) (th : Int) (s : SG) (S : Int → Int) (ty : Int) (rs : RS) (z : MZ) (y : MY) (F : Nat → Int64) (e : Nat) (kn : Bool) (h : List ev_AC) (o5 o6 : Option Value), 0 ≤ i → i ≤ (ev_sL g : Int) → (ev_sL g : Int) < i + 4 * k + 4 → LW th s S ty rs z y F e kn h →
    ev_E g false mL_law (d + 40) 23 [some (.float u), some (.ref 0), some (.ref 16), some (.ref 31), some (ev_i i), o5, o6] [] h (k + (15 - e)) (6 * k + (4194304 - 128 * 2 ^ e)) (fun o _ => o = .inl (some (ev_i 1)))
section LAW
variable {g : ev_G} {d : Nat} {u : UInt32} {k : Nat} {i th L n : Int} {tn : Bool} {P K S : Int → Int} {ty : Int} {rs : RS} {z : MZ} {y : MY} {F : Nat → Int64} {e : Nat} {kn : Bool} {h : List ev_AC} {o5 o6 : Option Value}
theorem law_strip (hs : ev_SC g) (ih : law_I g d u k) (i0 : 0 ≤ i) (i1 : i + 4 ≤ (ev_sL g : Int)) (hk : (ev_sL g : Int) < i + 4 * (k + 1 : Nat) + 4) (t0 : 0 ≤ ty) (t1 : ty ≤ 60) (hS : ∀ i, 0 ≤ i → i < 60 → 0 ≤ S i ∧ S i ≤ 126) (hLO : LO (L, n, tn, P, K) ty rs S (MC th (L, n, tn, P, K) S ty z y F) e kn h) :
    ev_E g false mL_law (d + 40) 120 [some (.float u), some (.ref 0), some (.ref 16), some (.ref 31), some (ev_i i), o5, o6] [] h (k + 1 + (15 - e)) (6 * (k + 1) + (4194304 - 128 * 2 ^ e)) (fun o _ => o = .inl (some (ev_i 1))) := by
  have ok : sp_ok L n P K := LO_ok hLO
  have e15 := LO_e hLO
  have ee := ly_e_15 (kn := kn) (s := (L, n, tn, P, K)) ok e15
  have pe : 2 ^ e ≤ 2 ^ ly_e kn e (L, n, tn, P, K) := Nat.pow_le_pow_right (by decide) ee.1
  have pe' : 2 ^ ly_e kn e (L, n, tn, P, K) ≤ 32768 := Nat.pow_le_pow_right (n := 2) (by decide) ee.2
  have hsL := hs.1
  refine ev_aload_n dL_law_120 rfl ?_
  refine ev_sload_n dL_law_121 rfl ?_
  refine ev_iload dL_law_122 rfl ?_
  refine ev_iconst dL_law_124 ?_
  refine ev_iadd dL_law_125 ?_
  refine ev_sald hs dL_law_126 (by omega) (by omega) ?_
  refine ev_callSW (n := 2) (M' := mL_strip) dL_law_127 wm_L_47 wi_L ws_L_strip wc_L_strip ⟨by decide +kernel, by decide +kernel⟩ (by decide +kernel) (by decide) rfl (Nat.le_of_ble_eq_true rfl) (ct_Lstrip (d := d + 32) (s := (L, n, tn, P, K)) (rs := rs) (sxi_bd g (i + 1)).1 (sxi_bd g (i + 1)).2 hLO) (by omega) (by omega) rfl (fun v h1 q => ?_)
  obtain ⟨qv, qL⟩ := q
  cases Sum.inl.inj qv
  obtain ⟨c, tl, rfl, qN⟩ := LO_mc qL rfl
  refine ev_hp (h' := MS c th (L, n, tn, P, K) S ty z y (ev_la 1 F :: tl)) rfl ?_
  refine ev_istore dL_law_130 (Nat.le_of_ble_eq_true rfl) ?_
  refine ev_aload_n dL_law_132 rfl ?_
  refine ev_sload_n dL_law_133 rfl ?_
  refine ev_iload dL_law_134 rfl ?_
  refine ev_iconst dL_law_136 ?_
  refine ev_iadd dL_law_137 ?_
  refine ev_sald hs dL_law_138 (by omega) (by omega) ?_
  refine ev_cVv dL_law_139 cv_L_52 (ct_MstripS (d := d + 38) (s := (L, n, tn, P, K)) (sxi_bd g (i + 1)).1 (sxi_bd g (i + 1)).2) rfl rfl rfl (Nat.le_of_ble_eq_true rfl) (Nat.zero_le _) (Nat.zero_le _) ?_
  refine ev_aload_n dL_law_142 rfl ?_
  refine ev_cV dL_law_143 cv_L_53 (ct_Mthrown (d := d + 39) (c := c) (th := (lb_strip (L, n, tn, P, K) (sxi g (i + 1))).1) (L := (lb_strip (L, n, tn, P, K) (sxi g (i + 1))).2.1) (n := (lb_strip (L, n, tn, P, K) (sxi g (i + 1))).2.2.1) (tn := (lb_strip (L, n, tn, P, K) (sxi g (i + 1))).2.2.2.1) (P := (lb_strip (L, n, tn, P, K) (sxi g (i + 1))).2.2.2.2.1) (K := (lb_strip (L, n, tn, P, K) (sxi g (i + 1))).2.2.2.2.2) (S := S) (ty := ty) (z := z) (y := y) (t := ev_la 1 F :: tl)) rfl rfl rfl (Nat.le_of_ble_eq_true rfl) (Nat.zero_le _) (Nat.zero_le _) ?_
  refine ev_iload dL_law_146 rfl ?_
  refine ev_icmp_same (tgt := 153) dL_law_148 rfl ?_
  refine ev_goto (tgt := 761) dL_law_153 rfl ?_
  refine ev_hp (h' := rp c (MC (lb_strip (L, n, tn, P, K) (sxi g (i + 1))).1 (lb_strip (L, n, tn, P, K) (sxi g (i + 1))).2 S ty z y F ++ tl)) rfl ?_
  refine ev_room (kc' := k + (15 - e)) (ks' := 6 * k + (4194304 - 128 * 2 ^ e)) (by omega) (by omega) ?_
  refine ev_iinc dL_law_761 rfl ?_
  refine ev_goto (tgt := 23) dL_law_764 rfl ?_
  exact ih (i + 4) (lb_strip (L, n, tn, P, K) (sxi g (i + 1))).1 (lb_strip (L, n, tn, P, K) (sxi g (i + 1))).2 S ty rs z y F e (lb_kn (lb_strip (L, n, tn, P, K) (sxi g (i + 1))).1 kn) _ _ _ (by omega) (by omega) (by omega) ⟨qN (MC (lb_strip (L, n, tn, P, K) (sxi g (i + 1))).1 (lb_strip (L, n, tn, P, K) (sxi g (i + 1))).2 S ty z y F) rfl, ⟨t0, t1⟩, hS⟩
theorem law_crease (hs : ev_SC g) (ih : law_I g d u k) (i0 : 0 ≤ i) (i1 : i + 4 ≤ (ev_sL g : Int)) (hk : (ev_sL g : Int) < i + 4 * (k + 1 : Nat) + 4) (t0 : 0 ≤ ty) (t1 : ty ≤ 60) (hS : ∀ i, 0 ≤ i → i < 60 → 0 ≤ S i ∧ S i ≤ 126) (hLO : LO (L, n, tn, P, K) ty rs S (MC th (L, n, tn, P, K) S ty z y F) e kn h) :
    ev_E g false mL_law (d + 40) 156 [some (.float u), some (.ref 0), some (.ref 16), some (.ref 31), some (ev_i i), o5, o6] [] h (k + 1 + (15 - e)) (6 * (k + 1) + (4194304 - 128 * 2 ^ e)) (fun o _ => o = .inl (some (ev_i 1))) := by
  have ok : sp_ok L n P K := LO_ok hLO
  have e15 := LO_e hLO
  have ee := ly_e_15 (kn := kn) (s := (L, n, tn, P, K)) ok e15
  have pe : 2 ^ e ≤ 2 ^ ly_e kn e (L, n, tn, P, K) := Nat.pow_le_pow_right (by decide) ee.1
  have pe' : 2 ^ ly_e kn e (L, n, tn, P, K) ≤ 32768 := Nat.pow_le_pow_right (n := 2) (by decide) ee.2
  have hsL := hs.1
  refine ev_aload_n dL_law_156 rfl ?_
  refine ev_sload_n dL_law_157 rfl ?_
  refine ev_iload dL_law_158 rfl ?_
  refine ev_iconst dL_law_160 ?_
  refine ev_iadd dL_law_161 ?_
  refine ev_sald hs dL_law_162 (by omega) (by omega) ?_
  refine ev_sload_n dL_law_163 rfl ?_
  refine ev_iload dL_law_164 rfl ?_
  refine ev_iconst dL_law_166 ?_
  refine ev_iadd dL_law_167 ?_
  refine ev_sald hs dL_law_168 (by omega) (by omega) ?_
  refine ev_aload_n dL_law_169 rfl ?_
  refine ev_callSW (n := 4) (M' := mL_crease) dL_law_170 wm_L_57 wi_L ws_L_crease wc_L_crease ⟨by decide +kernel, by decide +kernel⟩ (by decide +kernel) (by decide) rfl (Nat.le_of_ble_eq_true rfl) (ct_Lcrease (d := d + 32) (s := (L, n, tn, P, K)) (rs := rs) (F := F) (sxi_bd g (i + 1)).1 (sxi_bd g (i + 1)).2 (sxi_bd g (i + 2)).1 (sxi_bd g (i + 2)).2 rfl hLO) (by omega) (by omega) rfl (fun v h1 q => ?_)
  obtain ⟨F1, qv, qL, qF⟩ := lw_one q
  cases Sum.inl.inj qv
  have mb := mo_c_bd cd_A_bd (lb_creaseR (L, n, tn, P, K) (sxi g (i + 1)) (sxi g (i + 2)))
  obtain ⟨c, tl, rfl, qN⟩ := LO_mc qL rfl
  refine ev_hp (h' := MH c th L n tn P K S ty z y (ev_la 1 F1 :: tl)) rfl ?_
  refine ev_istore dL_law_173 (Nat.le_of_ble_eq_true rfl) ?_
  refine ev_aload_n dL_law_175 rfl ?_
  refine ev_sload_n dL_law_176 rfl ?_
  refine ev_iload dL_law_177 rfl ?_
  refine ev_iconst dL_law_179 ?_
  refine ev_iadd dL_law_180 ?_
  refine ev_sald hs dL_law_181 (by omega) (by omega) ?_
  refine ev_sload_n dL_law_182 rfl ?_
  refine ev_iload dL_law_183 rfl ?_
  refine ev_iconst dL_law_185 ?_
  refine ev_iadd dL_law_186 ?_
  refine ev_sald hs dL_law_187 (by omega) (by omega) ?_
  refine ev_cV dL_law_188 cv_L_60 (ct_Mcrease (d := d + 38) (sxi_bd g (i + 1)).1 (sxi_bd g (i + 1)).2 (sxi_bd g (i + 2)).1 (sxi_bd g (i + 2)).2 ok) rfl rfl rfl (Nat.le_of_ble_eq_true rfl) (Nat.zero_le _) (Nat.zero_le _) ?_
  have ec : (lb_crease (L, n, tn, P, K) (sxi g (i + 1)) (sxi g (i + 2))).1 = (mo_c cd_A (lb_creaseR (L, n, tn, P, K) (sxi g (i + 1)) (sxi g (i + 2)))) ∧ lb_crV (L, n, tn, P, K) (sxi g (i + 1)) (sxi g (i + 2)) = (mo_v (lb_creaseR (L, n, tn, P, K) (sxi g (i + 1)) (sxi g (i + 2)))) := cr_same
  rw [ec.2]
  refine ev_hp (h' := MS c ((mo_c cd_A (lb_creaseR (L, n, tn, P, K) (sxi g (i + 1)) (sxi g (i + 2))))) (lb_crease (L, n, tn, P, K) (sxi g (i + 1)) (sxi g (i + 2))).2 S ty z y (ev_la 1 F1 :: tl)) (by rw [ec.1]) ?_
  refine ev_istore dL_law_191 (Nat.le_of_ble_eq_true rfl) ?_
  refine ev_aload_n dL_law_193 rfl ?_
  refine ev_cV dL_law_194 cv_L_53 (ct_Mthrown (d := d + 39) (c := c) (th := (mo_c cd_A (lb_creaseR (L, n, tn, P, K) (sxi g (i + 1)) (sxi g (i + 2))))) (L := (lb_crease (L, n, tn, P, K) (sxi g (i + 1)) (sxi g (i + 2))).2.1) (n := (lb_crease (L, n, tn, P, K) (sxi g (i + 1)) (sxi g (i + 2))).2.2.1) (tn := (lb_crease (L, n, tn, P, K) (sxi g (i + 1)) (sxi g (i + 2))).2.2.2.1) (P := (lb_crease (L, n, tn, P, K) (sxi g (i + 1)) (sxi g (i + 2))).2.2.2.2.1) (K := (lb_crease (L, n, tn, P, K) (sxi g (i + 1)) (sxi g (i + 2))).2.2.2.2.2) (S := S) (ty := ty) (z := z) (y := y) (t := ev_la 1 F1 :: tl)) rfl rfl rfl (Nat.le_of_ble_eq_true rfl) (Nat.zero_le _) (Nat.zero_le _) ?_
  refine ev_iload dL_law_197 rfl ?_
  refine ev_icmp_same (tgt := 204) dL_law_199 rfl ?_
  refine ev_iload dL_law_204 rfl ?_
  refine ev_if_ne (tgt := 221) dL_law_206 rfl (by omega) (by omega) (fun w1 => ?_) (fun w1 => ?_)
  · refine ev_goto (tgt := 761) dL_law_221 rfl ?_
    refine ev_hp (h' := rp c (MC (mo_c cd_A (lb_creaseR (L, n, tn, P, K) (sxi g (i + 1)) (sxi g (i + 2)))) (lb_crease (L, n, tn, P, K) (sxi g (i + 1)) (sxi g (i + 2))).2 S ty z y F1 ++ tl)) rfl ?_
    refine ev_room (kc' := k + (15 - e)) (ks' := 6 * k + (4194304 - 128 * 2 ^ e)) (by omega) (by omega) ?_
    refine ev_iinc dL_law_761 rfl ?_
    refine ev_goto (tgt := 23) dL_law_764 rfl ?_
    exact ih (i + 4) (mo_c cd_A (lb_creaseR (L, n, tn, P, K) (sxi g (i + 1)) (sxi g (i + 2)))) (lb_crease (L, n, tn, P, K) (sxi g (i + 1)) (sxi g (i + 2))).2 S ty rs z y F1 e (lb_kn (lb_crease (L, n, tn, P, K) (sxi g (i + 1)) (sxi g (i + 2))).1 kn) _ _ _ (by omega) (by omega) (by omega) ⟨qN (MC (mo_c cd_A (lb_creaseR (L, n, tn, P, K) (sxi g (i + 1)) (sxi g (i + 2)))) (lb_crease (L, n, tn, P, K) (sxi g (i + 1)) (sxi g (i + 2))).2 S ty z y F1) rfl, ⟨t0, t1⟩, hS⟩
  · obtain ⟨w, hw, hw2⟩ := mb.2.2 w1
    have qF0 : F1 (0 : Int).toNat = (Int32.ofInt w).toInt64 := qF w hw
    refine ev_aload_n dL_law_209 rfl ?_
    refine ev_iconst dL_law_210 ?_
    refine ev_lald dL_law_211 rfl (by omega) (by omega) (by decide) ?_
    refine ev_iload dL_law_212 rfl ?_
    refine ev_i2l dL_law_214 ?_
    rw [qF0, hw2]
    refine ev_lcmp_same dL_law_215 ?_
    refine ev_if_eq (tgt := 221) dL_law_216 rfl (by omega) (by omega) (fun w2 => ?_) (fun w2 => ?_)
    · refine ev_goto (tgt := 761) dL_law_221 rfl ?_
      refine ev_hp (h' := rp c (MC (mo_c cd_A (lb_creaseR (L, n, tn, P, K) (sxi g (i + 1)) (sxi g (i + 2)))) (lb_crease (L, n, tn, P, K) (sxi g (i + 1)) (sxi g (i + 2))).2 S ty z y F1 ++ tl)) rfl ?_
      refine ev_room (kc' := k + (15 - e)) (ks' := 6 * k + (4194304 - 128 * 2 ^ e)) (by omega) (by omega) ?_
      refine ev_iinc dL_law_761 rfl ?_
      refine ev_goto (tgt := 23) dL_law_764 rfl ?_
      exact ih (i + 4) (mo_c cd_A (lb_creaseR (L, n, tn, P, K) (sxi g (i + 1)) (sxi g (i + 2)))) (lb_crease (L, n, tn, P, K) (sxi g (i + 1)) (sxi g (i + 2))).2 S ty rs z y F1 e (lb_kn (lb_crease (L, n, tn, P, K) (sxi g (i + 1)) (sxi g (i + 2))).1 kn) _ _ _ (by omega) (by omega) (by omega) ⟨qN (MC (mo_c cd_A (lb_creaseR (L, n, tn, P, K) (sxi g (i + 1)) (sxi g (i + 2)))) (lb_crease (L, n, tn, P, K) (sxi g (i + 1)) (sxi g (i + 2))).2 S ty z y F1) rfl, ⟨t0, t1⟩, hS⟩
    · exact absurd rfl w2
theorem law_turn (hs : ev_SC g) (ih : law_I g d u k) (i0 : 0 ≤ i) (i1 : i + 4 ≤ (ev_sL g : Int)) (hk : (ev_sL g : Int) < i + 4 * (k + 1 : Nat) + 4) (t0 : 0 ≤ ty) (t1 : ty ≤ 60) (hS : ∀ i, 0 ≤ i → i < 60 → 0 ≤ S i ∧ S i ≤ 126) (hLO : LO (L, n, tn, P, K) ty rs S (MC th (L, n, tn, P, K) S ty z y F) e kn h) :
    ev_E g false mL_law (d + 40) 224 [some (.float u), some (.ref 0), some (.ref 16), some (.ref 31), some (ev_i i), o5, o6] [] h (k + 1 + (15 - e)) (6 * (k + 1) + (4194304 - 128 * 2 ^ e)) (fun o _ => o = .inl (some (ev_i 1))) := by
  have ok : sp_ok L n P K := LO_ok hLO
  have e15 := LO_e hLO
  have ee := ly_e_15 (kn := kn) (s := (L, n, tn, P, K)) ok e15
  have pe : 2 ^ e ≤ 2 ^ ly_e kn e (L, n, tn, P, K) := Nat.pow_le_pow_right (by decide) ee.1
  have pe' : 2 ^ ly_e kn e (L, n, tn, P, K) ≤ 32768 := Nat.pow_le_pow_right (n := 2) (by decide) ee.2
  have hsL := hs.1
  refine ev_aload_n dL_law_224 rfl ?_
  refine ev_callV dL_law_225 cv_L_61 rfl (LO_0 hLO) (Nat.le_of_ble_eq_true rfl) (ct_Xturn (d := d + 38) (s := (L, n, tn, P, K)) hLO) (by omega) (by omega) rfl (fun v h1 q => ?_)
  obtain ⟨qv, qL⟩ := q
  cases Sum.inl.inj qv
  obtain ⟨c, tl, rfl, qN⟩ := LO_mc qL rfl
  refine ev_hp (h' := MH c th L n tn P K S ty z y (ev_la 1 F :: tl)) rfl ?_
  refine ev_aload_n dL_law_228 rfl ?_
  refine ev_cV dL_law_229 cv_L_65 (ct_Mturn (d := d + 39)) rfl rfl rfl (Nat.le_of_ble_eq_true rfl) (Nat.zero_le _) (Nat.zero_le _) ?_
  refine ev_icmp_same (tgt := 761) dL_law_232 rfl ?_
  refine ev_hp (h' := rp c (MC 0 (lb_turn (L, n, tn, P, K)) S ty z y F ++ tl)) rfl ?_
  refine ev_room (kc' := k + (15 - e)) (ks' := 6 * k + (4194304 - 128 * 2 ^ e)) (by omega) (by omega) ?_
  refine ev_iinc dL_law_761 rfl ?_
  refine ev_goto (tgt := 23) dL_law_764 rfl ?_
  exact ih (i + 4) 0 (lb_turn (L, n, tn, P, K)) S ty rs z y F e false _ _ _ (by omega) (by omega) (by omega) ⟨qN (MC 0 (lb_turn (L, n, tn, P, K)) S ty z y F) rfl, ⟨t0, t1⟩, hS⟩
theorem law_count (hs : ev_SC g) (ih : law_I g d u k) (i0 : 0 ≤ i) (i1 : i + 4 ≤ (ev_sL g : Int)) (hk : (ev_sL g : Int) < i + 4 * (k + 1 : Nat) + 4) (t0 : 0 ≤ ty) (t1 : ty ≤ 60) (hS : ∀ i, 0 ≤ i → i < 60 → 0 ≤ S i ∧ S i ≤ 126) (hLO : LO (L, n, tn, P, K) ty rs S (MC th (L, n, tn, P, K) S ty z y F) e kn h) :
    ev_E g false mL_law (d + 40) 237 [some (.float u), some (.ref 0), some (.ref 16), some (.ref 31), some (ev_i i), o5, o6] [] h (k + 1 + (15 - e)) (6 * (k + 1) + (4194304 - 128 * 2 ^ e)) (fun o _ => o = .inl (some (ev_i 1))) := by
  have ok : sp_ok L n P K := LO_ok hLO
  have e15 := LO_e hLO
  have ee := ly_e_15 (kn := kn) (s := (L, n, tn, P, K)) ok e15
  have pe : 2 ^ e ≤ 2 ^ ly_e kn e (L, n, tn, P, K) := Nat.pow_le_pow_right (by decide) ee.1
  have pe' : 2 ^ ly_e kn e (L, n, tn, P, K) ≤ 32768 := Nat.pow_le_pow_right (n := 2) (by decide) ee.2
  have hsL := hs.1
  refine ev_aload_n dL_law_237 rfl ?_
  refine ev_sload_n dL_law_238 rfl ?_
  refine ev_iload dL_law_239 rfl ?_
  refine ev_iconst dL_law_241 ?_
  refine ev_iadd dL_law_242 ?_
  refine ev_sald hs dL_law_243 (by omega) (by omega) ?_
  refine ev_callV dL_law_244 cv_L_66 rfl (LO_0 hLO) (Nat.le_of_ble_eq_true rfl) (ct_Xcount (d := d + 38) (s := (L, n, tn, P, K)) (sxi_bd g (i + 1)).1 (sxi_bd g (i + 1)).2 hLO) (by omega) (by omega) rfl (fun v h1 q => ?_)
  obtain ⟨qv, qL⟩ := q
  cases Sum.inl.inj qv
  obtain ⟨c, tl, rfl, qN⟩ := LO_mc qL rfl
  refine ev_hp (h' := MH c th L n tn P K S ty z y (ev_la 1 F :: tl)) rfl ?_
  refine ev_aload_n dL_law_247 rfl ?_
  refine ev_sload_n dL_law_248 rfl ?_
  refine ev_iload dL_law_249 rfl ?_
  refine ev_iconst dL_law_251 ?_
  refine ev_iadd dL_law_252 ?_
  refine ev_sald hs dL_law_253 (by omega) (by omega) ?_
  refine ev_cV dL_law_254 cv_L_69 (ct_Mcount (d := d + 38) (sxi_bd g (i + 1)).1 (sxi_bd g (i + 1)).2 ok) rfl rfl rfl (Nat.le_of_ble_eq_true rfl) (Nat.zero_le _) (Nat.zero_le _) ?_
  refine ev_icmp_same (tgt := 761) dL_law_257 rfl ?_
  refine ev_hp (h' := rp c (MC 0 (L, n, tn, P, K) S ty z y F ++ tl)) rfl ?_
  refine ev_room (kc' := k + (15 - e)) (ks' := 6 * k + (4194304 - 128 * 2 ^ e)) (by omega) (by omega) ?_
  refine ev_iinc dL_law_761 rfl ?_
  refine ev_goto (tgt := 23) dL_law_764 rfl ?_
  exact ih (i + 4) 0 (L, n, tn, P, K) S ty rs z y F e kn _ _ _ (by omega) (by omega) (by omega) ⟨qN (MC 0 (L, n, tn, P, K) S ty z y F) rfl, ⟨t0, t1⟩, hS⟩
theorem law_segment (hs : ev_SC g) (ih : law_I g d u k) (i0 : 0 ≤ i) (i1 : i + 4 ≤ (ev_sL g : Int)) (hk : (ev_sL g : Int) < i + 4 * (k + 1 : Nat) + 4) (t0 : 0 ≤ ty) (t1 : ty ≤ 60) (hS : ∀ i, 0 ≤ i → i < 60 → 0 ≤ S i ∧ S i ≤ 126) (hLO : LO (L, n, tn, P, K) ty rs S (MC th (L, n, tn, P, K) S ty z y F) e kn h) :
    ev_E g false mL_law (d + 40) 262 [some (.float u), some (.ref 0), some (.ref 16), some (.ref 31), some (ev_i i), o5, o6] [] h (k + 1 + (15 - e)) (6 * (k + 1) + (4194304 - 128 * 2 ^ e)) (fun o _ => o = .inl (some (ev_i 1))) := by
  have ok : sp_ok L n P K := LO_ok hLO
  have e15 := LO_e hLO
  have ee := ly_e_15 (kn := kn) (s := (L, n, tn, P, K)) ok e15
  have pe : 2 ^ e ≤ 2 ^ ly_e kn e (L, n, tn, P, K) := Nat.pow_le_pow_right (by decide) ee.1
  have pe' : 2 ^ ly_e kn e (L, n, tn, P, K) ≤ 32768 := Nat.pow_le_pow_right (n := 2) (by decide) ee.2
  have hsL := hs.1
  refine ev_aload_n dL_law_262 rfl ?_
  refine ev_sload_n dL_law_263 rfl ?_
  refine ev_iload dL_law_264 rfl ?_
  refine ev_iconst dL_law_266 ?_
  refine ev_iadd dL_law_267 ?_
  refine ev_sald hs dL_law_268 (by omega) (by omega) ?_
  refine ev_sload_n dL_law_269 rfl ?_
  refine ev_iload dL_law_270 rfl ?_
  refine ev_iconst dL_law_272 ?_
  refine ev_iadd dL_law_273 ?_
  refine ev_sald hs dL_law_274 (by omega) (by omega) ?_
  refine ev_aload_n dL_law_275 rfl ?_
  refine ev_callSW (n := 4) (M' := mL_segment) dL_law_276 wm_L_70 wi_L ws_L_segment wc_L_segment ⟨by decide +kernel, by decide +kernel⟩ (by decide +kernel) (by decide) rfl (Nat.le_of_ble_eq_true rfl) (ct_Lsegment (d := d + 32) (s := (L, n, tn, P, K)) (rs := rs) (F := F) (sxi_bd g (i + 1)).1 (sxi_bd g (i + 1)).2 (sxi_bd g (i + 2)).1 (sxi_bd g (i + 2)).2 rfl hLO) (by omega) (by omega) rfl (fun v h1 q => ?_)
  obtain ⟨F1, qv, qL, qF⟩ := lw_one q
  cases Sum.inl.inj qv
  have mb := mo_c_bd cd_O_bd (lb_seg (L, n, tn, P, K) (sxi g (i + 1)) (sxi g (i + 2)))
  obtain ⟨c, tl, rfl, qN⟩ := LO_mc qL rfl
  refine ev_hp (h' := MH c th L n tn P K S ty z y (ev_la 1 F1 :: tl)) rfl ?_
  refine ev_istore dL_law_279 (Nat.le_of_ble_eq_true rfl) ?_
  refine ev_aload_n dL_law_281 rfl ?_
  refine ev_sload_n dL_law_282 rfl ?_
  refine ev_iload dL_law_283 rfl ?_
  refine ev_iconst dL_law_285 ?_
  refine ev_iadd dL_law_286 ?_
  refine ev_sald hs dL_law_287 (by omega) (by omega) ?_
  refine ev_sload_n dL_law_288 rfl ?_
  refine ev_iload dL_law_289 rfl ?_
  refine ev_iconst dL_law_291 ?_
  refine ev_iadd dL_law_292 ?_
  refine ev_sald hs dL_law_293 (by omega) (by omega) ?_
  refine ev_cV dL_law_294 cv_L_72 (ct_Msegment (d := d + 36) (sxi_bd g (i + 1)).1 (sxi_bd g (i + 1)).2 (sxi_bd g (i + 2)).1 (sxi_bd g (i + 2)).2 ok) rfl rfl rfl (Nat.le_of_ble_eq_true rfl) (Nat.zero_le _) (Nat.zero_le _) ?_
  refine ev_istore dL_law_297 (Nat.le_of_ble_eq_true rfl) ?_
  refine ev_aload_n dL_law_299 rfl ?_
  refine ev_cV dL_law_300 cv_L_53 (ct_Mthrown (d := d + 39) (c := c) (th := (mo_c cd_O (lb_seg (L, n, tn, P, K) (sxi g (i + 1)) (sxi g (i + 2))))) (L := L) (n := n) (tn := tn) (P := P) (K := K) (S := S) (ty := ty) (z := z) (y := y) (t := ev_la 1 F1 :: tl)) rfl rfl rfl (Nat.le_of_ble_eq_true rfl) (Nat.zero_le _) (Nat.zero_le _) ?_
  refine ev_iload dL_law_303 rfl ?_
  refine ev_icmp_same (tgt := 310) dL_law_305 rfl ?_
  refine ev_iload dL_law_310 rfl ?_
  refine ev_if_ne (tgt := 327) dL_law_312 rfl (by omega) (by omega) (fun w1 => ?_) (fun w1 => ?_)
  · refine ev_goto (tgt := 761) dL_law_327 rfl ?_
    refine ev_hp (h' := rp c (MC (mo_c cd_O (lb_seg (L, n, tn, P, K) (sxi g (i + 1)) (sxi g (i + 2)))) (L, n, tn, P, K) S ty z y F1 ++ tl)) rfl ?_
    refine ev_room (kc' := k + (15 - e)) (ks' := 6 * k + (4194304 - 128 * 2 ^ e)) (by omega) (by omega) ?_
    refine ev_iinc dL_law_761 rfl ?_
    refine ev_goto (tgt := 23) dL_law_764 rfl ?_
    exact ih (i + 4) (mo_c cd_O (lb_seg (L, n, tn, P, K) (sxi g (i + 1)) (sxi g (i + 2)))) (L, n, tn, P, K) S ty rs z y F1 e kn _ _ _ (by omega) (by omega) (by omega) ⟨qN (MC (mo_c cd_O (lb_seg (L, n, tn, P, K) (sxi g (i + 1)) (sxi g (i + 2)))) (L, n, tn, P, K) S ty z y F1) rfl, ⟨t0, t1⟩, hS⟩
  · obtain ⟨w, hw, hw2⟩ := mb.2.2 w1
    have qF0 : F1 (0 : Int).toNat = (Int32.ofInt w).toInt64 := qF w hw
    refine ev_aload_n dL_law_315 rfl ?_
    refine ev_iconst dL_law_316 ?_
    refine ev_lald dL_law_317 rfl (by omega) (by omega) (by decide) ?_
    refine ev_iload dL_law_318 rfl ?_
    refine ev_i2l dL_law_320 ?_
    rw [qF0, hw2]
    refine ev_lcmp_same dL_law_321 ?_
    refine ev_if_eq (tgt := 327) dL_law_322 rfl (by omega) (by omega) (fun w2 => ?_) (fun w2 => ?_)
    · refine ev_goto (tgt := 761) dL_law_327 rfl ?_
      refine ev_hp (h' := rp c (MC (mo_c cd_O (lb_seg (L, n, tn, P, K) (sxi g (i + 1)) (sxi g (i + 2)))) (L, n, tn, P, K) S ty z y F1 ++ tl)) rfl ?_
      refine ev_room (kc' := k + (15 - e)) (ks' := 6 * k + (4194304 - 128 * 2 ^ e)) (by omega) (by omega) ?_
      refine ev_iinc dL_law_761 rfl ?_
      refine ev_goto (tgt := 23) dL_law_764 rfl ?_
      exact ih (i + 4) (mo_c cd_O (lb_seg (L, n, tn, P, K) (sxi g (i + 1)) (sxi g (i + 2)))) (L, n, tn, P, K) S ty rs z y F1 e kn _ _ _ (by omega) (by omega) (by omega) ⟨qN (MC (mo_c cd_O (lb_seg (L, n, tn, P, K) (sxi g (i + 1)) (sxi g (i + 2)))) (L, n, tn, P, K) S ty z y F1) rfl, ⟨t0, t1⟩, hS⟩
    · exact absurd rfl w2
theorem law_whereIs (hs : ev_SC g) (ih : law_I g d u k) (i0 : 0 ≤ i) (i1 : i + 4 ≤ (ev_sL g : Int)) (hk : (ev_sL g : Int) < i + 4 * (k + 1 : Nat) + 4) (t0 : 0 ≤ ty) (t1 : ty ≤ 60) (hS : ∀ i, 0 ≤ i → i < 60 → 0 ≤ S i ∧ S i ≤ 126) (hLO : LO (L, n, tn, P, K) ty rs S (MC th (L, n, tn, P, K) S ty z y F) e kn h) :
    ev_E g false mL_law (d + 40) 330 [some (.float u), some (.ref 0), some (.ref 16), some (.ref 31), some (ev_i i), o5, o6] [] h (k + 1 + (15 - e)) (6 * (k + 1) + (4194304 - 128 * 2 ^ e)) (fun o _ => o = .inl (some (ev_i 1))) := by
  have ok : sp_ok L n P K := LO_ok hLO
  have e15 := LO_e hLO
  have ee := ly_e_15 (kn := kn) (s := (L, n, tn, P, K)) ok e15
  have pe : 2 ^ e ≤ 2 ^ ly_e kn e (L, n, tn, P, K) := Nat.pow_le_pow_right (by decide) ee.1
  have pe' : 2 ^ ly_e kn e (L, n, tn, P, K) ≤ 32768 := Nat.pow_le_pow_right (n := 2) (by decide) ee.2
  have hsL := hs.1
  refine ev_aload_n dL_law_330 rfl ?_
  refine ev_sload_n dL_law_331 rfl ?_
  refine ev_iload dL_law_332 rfl ?_
  refine ev_iconst dL_law_334 ?_
  refine ev_iadd dL_law_335 ?_
  refine ev_sald hs dL_law_336 (by omega) (by omega) ?_
  refine ev_aload_n dL_law_337 rfl ?_
  refine ev_callSW (n := 3) (M' := mL_whereIs) dL_law_338 wm_L_73 wi_L ws_L_whereIs wc_L_whereIs ⟨by decide +kernel, by decide +kernel⟩ (by decide +kernel) (by decide) rfl (Nat.le_of_ble_eq_true rfl) (ct_LwhereIs (d := d + 32) (s := (L, n, tn, P, K)) (rs := rs) (F := F) (sxi_bd g (i + 1)).1 (sxi_bd g (i + 1)).2 rfl hLO) (by omega) (by omega) rfl (fun v h1 q => ?_)
  obtain ⟨F1, qv, qL, qF⟩ := lw_one q
  cases Sum.inl.inj qv
  have mb := mo_c_bd cd_A_bd (lb_where (L, n, tn, P, K) (sxi g (i + 1)))
  obtain ⟨c, tl, rfl, qN⟩ := LO_mc qL rfl
  refine ev_hp (h' := MH c th L n tn P K S ty z y (ev_la 1 F1 :: tl)) rfl ?_
  refine ev_istore dL_law_341 (Nat.le_of_ble_eq_true rfl) ?_
  refine ev_aload_n dL_law_343 rfl ?_
  refine ev_sload_n dL_law_344 rfl ?_
  refine ev_iload dL_law_345 rfl ?_
  refine ev_iconst dL_law_347 ?_
  refine ev_iadd dL_law_348 ?_
  refine ev_sald hs dL_law_349 (by omega) (by omega) ?_
  refine ev_cV dL_law_350 cv_L_76 (ct_MwhereIs (d := d + 38) (sxi_bd g (i + 1)).1 (sxi_bd g (i + 1)).2 ok) rfl rfl rfl (Nat.le_of_ble_eq_true rfl) (Nat.zero_le _) (Nat.zero_le _) ?_
  have ew := eq_where (tn := tn) ok (sxi g (i + 1))
  rw [ew.1, ew.2]
  refine ev_istore dL_law_353 (Nat.le_of_ble_eq_true rfl) ?_
  refine ev_aload_n dL_law_355 rfl ?_
  refine ev_cV dL_law_356 cv_L_53 (ct_Mthrown (d := d + 39) (c := c) (th := (mo_c cd_A (lb_where (L, n, tn, P, K) (sxi g (i + 1))))) (L := L) (n := n) (tn := tn) (P := P) (K := K) (S := S) (ty := ty) (z := z) (y := y) (t := ev_la 1 F1 :: tl)) rfl rfl rfl (Nat.le_of_ble_eq_true rfl) (Nat.zero_le _) (Nat.zero_le _) ?_
  refine ev_iload dL_law_359 rfl ?_
  refine ev_icmp_same (tgt := 366) dL_law_361 rfl ?_
  refine ev_iload dL_law_366 rfl ?_
  refine ev_if_ne (tgt := 383) dL_law_368 rfl (by omega) (by omega) (fun w1 => ?_) (fun w1 => ?_)
  · refine ev_goto (tgt := 761) dL_law_383 rfl ?_
    refine ev_hp (h' := rp c (MC (mo_c cd_A (lb_where (L, n, tn, P, K) (sxi g (i + 1)))) (L, n, tn, P, K) S ty z y F1 ++ tl)) rfl ?_
    refine ev_room (kc' := k + (15 - e)) (ks' := 6 * k + (4194304 - 128 * 2 ^ e)) (by omega) (by omega) ?_
    refine ev_iinc dL_law_761 rfl ?_
    refine ev_goto (tgt := 23) dL_law_764 rfl ?_
    exact ih (i + 4) (mo_c cd_A (lb_where (L, n, tn, P, K) (sxi g (i + 1)))) (L, n, tn, P, K) S ty rs z y F1 e kn _ _ _ (by omega) (by omega) (by omega) ⟨qN (MC (mo_c cd_A (lb_where (L, n, tn, P, K) (sxi g (i + 1)))) (L, n, tn, P, K) S ty z y F1) rfl, ⟨t0, t1⟩, hS⟩
  · obtain ⟨w, hw, hw2⟩ := mb.2.2 w1
    have qF0 : F1 (0 : Int).toNat = (Int32.ofInt w).toInt64 := qF w hw
    refine ev_aload_n dL_law_371 rfl ?_
    refine ev_iconst dL_law_372 ?_
    refine ev_lald dL_law_373 rfl (by omega) (by omega) (by decide) ?_
    refine ev_iload dL_law_374 rfl ?_
    refine ev_i2l dL_law_376 ?_
    rw [qF0, hw2]
    refine ev_lcmp_same dL_law_377 ?_
    refine ev_if_eq (tgt := 383) dL_law_378 rfl (by omega) (by omega) (fun w2 => ?_) (fun w2 => ?_)
    · refine ev_goto (tgt := 761) dL_law_383 rfl ?_
      refine ev_hp (h' := rp c (MC (mo_c cd_A (lb_where (L, n, tn, P, K) (sxi g (i + 1)))) (L, n, tn, P, K) S ty z y F1 ++ tl)) rfl ?_
      refine ev_room (kc' := k + (15 - e)) (ks' := 6 * k + (4194304 - 128 * 2 ^ e)) (by omega) (by omega) ?_
      refine ev_iinc dL_law_761 rfl ?_
      refine ev_goto (tgt := 23) dL_law_764 rfl ?_
      exact ih (i + 4) (mo_c cd_A (lb_where (L, n, tn, P, K) (sxi g (i + 1)))) (L, n, tn, P, K) S ty rs z y F1 e kn _ _ _ (by omega) (by omega) (by omega) ⟨qN (MC (mo_c cd_A (lb_where (L, n, tn, P, K) (sxi g (i + 1)))) (L, n, tn, P, K) S ty z y F1) rfl, ⟨t0, t1⟩, hS⟩
    · exact absurd rfl w2
theorem law_width (hs : ev_SC g) (ih : law_I g d u k) (i0 : 0 ≤ i) (i1 : i + 4 ≤ (ev_sL g : Int)) (hk : (ev_sL g : Int) < i + 4 * (k + 1 : Nat) + 4) (t0 : 0 ≤ ty) (t1 : ty ≤ 60) (hS : ∀ i, 0 ≤ i → i < 60 → 0 ≤ S i ∧ S i ≤ 126) (hLO : LO (L, n, tn, P, K) ty rs S (MC th (L, n, tn, P, K) S ty z y F) e kn h) :
    ev_E g false mL_law (d + 40) 386 [some (.float u), some (.ref 0), some (.ref 16), some (.ref 31), some (ev_i i), o5, o6] [] h (k + 1 + (15 - e)) (6 * (k + 1) + (4194304 - 128 * 2 ^ e)) (fun o _ => o = .inl (some (ev_i 1))) := by
  have ok : sp_ok L n P K := LO_ok hLO
  have e15 := LO_e hLO
  have ee := ly_e_15 (kn := kn) (s := (L, n, tn, P, K)) ok e15
  have pe : 2 ^ e ≤ 2 ^ ly_e kn e (L, n, tn, P, K) := Nat.pow_le_pow_right (by decide) ee.1
  have pe' : 2 ^ ly_e kn e (L, n, tn, P, K) ≤ 32768 := Nat.pow_le_pow_right (n := 2) (by decide) ee.2
  have hsL := hs.1
  refine ev_aload_n dL_law_386 rfl ?_
  refine ev_callV dL_law_387 cv_L_77 rfl (LO_0 hLO) (Nat.le_of_ble_eq_true rfl) (ct_Xwidth (d := d + 37) (s := (L, n, tn, P, K)) hLO) (by omega) (by omega) rfl (fun v h1 q => ?_)
  obtain ⟨qv, qL⟩ := q
  cases Sum.inl.inj qv
  obtain ⟨c, tl, rfl, qN⟩ := LO_mc qL rfl
  refine ev_hp (h' := MH c th L n tn P K S ty z y (ev_la 1 F :: tl)) rfl ?_
  refine ev_aload_n dL_law_390 rfl ?_
  refine ev_cV dL_law_391 cv_L_80 (ct_Mwidth (d := d + 38) ok) rfl rfl rfl (Nat.le_of_ble_eq_true rfl) (Nat.zero_le _) (Nat.zero_le _) ?_
  rw [eq_width ok]
  refine ev_icmp_same (tgt := 761) dL_law_394 rfl ?_
  refine ev_hp (h' := rp c (MC 0 (L, n, tn, P, K) S ty z y F ++ tl)) rfl ?_
  refine ev_room (kc' := k + (15 - e)) (ks' := 6 * k + (4194304 - 128 * 2 ^ e)) (by omega) (by omega) ?_
  refine ev_iinc dL_law_761 rfl ?_
  refine ev_goto (tgt := 23) dL_law_764 rfl ?_
  exact ih (i + 4) 0 (L, n, tn, P, K) S ty rs z y F e kn _ _ _ (by omega) (by omega) (by omega) ⟨qN (MC 0 (L, n, tn, P, K) S ty z y F) rfl, ⟨t0, t1⟩, hS⟩
theorem law_thickness (hs : ev_SC g) (ih : law_I g d u k) (i0 : 0 ≤ i) (i1 : i + 4 ≤ (ev_sL g : Int)) (hk : (ev_sL g : Int) < i + 4 * (k + 1 : Nat) + 4) (t0 : 0 ≤ ty) (t1 : ty ≤ 60) (hS : ∀ i, 0 ≤ i → i < 60 → 0 ≤ S i ∧ S i ≤ 126) (hLO : LO (L, n, tn, P, K) ty rs S (MC th (L, n, tn, P, K) S ty z y F) e kn h) :
    ev_E g false mL_law (d + 40) 399 [some (.float u), some (.ref 0), some (.ref 16), some (.ref 31), some (ev_i i), o5, o6] [] h (k + 1 + (15 - e)) (6 * (k + 1) + (4194304 - 128 * 2 ^ e)) (fun o _ => o = .inl (some (ev_i 1))) := by
  have ok : sp_ok L n P K := LO_ok hLO
  have e15 := LO_e hLO
  have ee := ly_e_15 (kn := kn) (s := (L, n, tn, P, K)) ok e15
  have pe : 2 ^ e ≤ 2 ^ ly_e kn e (L, n, tn, P, K) := Nat.pow_le_pow_right (by decide) ee.1
  have pe' : 2 ^ ly_e kn e (L, n, tn, P, K) ≤ 32768 := Nat.pow_le_pow_right (n := 2) (by decide) ee.2
  have hsL := hs.1
  refine ev_aload_n dL_law_399 rfl ?_
  refine ev_callV dL_law_400 cv_L_81 rfl (LO_0 hLO) (Nat.le_of_ble_eq_true rfl) (ct_Xthick (d := d + 36) (s := (L, n, tn, P, K)) hLO) (by omega) (by omega) rfl (fun v h1 q => ?_)
  obtain ⟨qv, qL⟩ := q
  cases Sum.inl.inj qv
  obtain ⟨c, tl, rfl, qN⟩ := LO_mc qL rfl
  refine ev_hp (h' := MH c th L n tn P K S ty z y (ev_la 1 F :: tl)) rfl ?_
  refine ev_aload_n dL_law_403 rfl ?_
  refine ev_cV dL_law_404 cv_L_84 (ct_Mthick (d := d + 35) ok) rfl rfl rfl (Nat.le_of_ble_eq_true rfl) (Nat.zero_le _) (Nat.zero_le _) ?_
  rw [eq_thick ok]
  refine ev_icmp_same (tgt := 761) dL_law_407 rfl ?_
  refine ev_hp (h' := rp c (MC 0 (L, n, tn, P, K) S ty z y F ++ tl)) rfl ?_
  refine ev_room (kc' := k + (15 - e)) (ks' := 6 * k + (4194304 - 128 * 2 ^ e)) (by omega) (by omega) ?_
  refine ev_iinc dL_law_761 rfl ?_
  refine ev_goto (tgt := 23) dL_law_764 rfl ?_
  exact ih (i + 4) 0 (L, n, tn, P, K) S ty rs z y F e kn _ _ _ (by omega) (by omega) (by omega) ⟨qN (MC 0 (L, n, tn, P, K) S ty z y F) rfl, ⟨t0, t1⟩, hS⟩
theorem law_foldable (hs : ev_SC g) (ih : law_I g d u k) (i0 : 0 ≤ i) (i1 : i + 4 ≤ (ev_sL g : Int)) (hk : (ev_sL g : Int) < i + 4 * (k + 1 : Nat) + 4) (t0 : 0 ≤ ty) (t1 : ty ≤ 60) (hS : ∀ i, 0 ≤ i → i < 60 → 0 ≤ S i ∧ S i ≤ 126) (hLO : LO (L, n, tn, P, K) ty rs S (MC th (L, n, tn, P, K) S ty z y F) e kn h) :
    ev_E g false mL_law (d + 40) 412 [some (.float u), some (.ref 0), some (.ref 16), some (.ref 31), some (ev_i i), o5, o6] [] h (k + 1 + (15 - e)) (6 * (k + 1) + (4194304 - 128 * 2 ^ e)) (fun o _ => o = .inl (some (ev_i 1))) := by
  have ok : sp_ok L n P K := LO_ok hLO
  have e15 := LO_e hLO
  have ee := ly_e_15 (kn := kn) (s := (L, n, tn, P, K)) ok e15
  have pe : 2 ^ e ≤ 2 ^ ly_e kn e (L, n, tn, P, K) := Nat.pow_le_pow_right (by decide) ee.1
  have pe' : 2 ^ ly_e kn e (L, n, tn, P, K) ≤ 32768 := Nat.pow_le_pow_right (n := 2) (by decide) ee.2
  have hsL := hs.1
  refine ev_aload_n dL_law_412 rfl ?_
  refine ev_callV dL_law_413 cv_L_85 rfl (LO_0 hLO) (Nat.le_of_ble_eq_true rfl) (ct_Xfold (d := d + 35) (s := (L, n, tn, P, K)) hLO) (by omega) (by omega) rfl (fun v h1 q => ?_)
  obtain ⟨qv, qL⟩ := q
  cases Sum.inl.inj qv
  obtain ⟨c, tl, rfl, qN⟩ := LO_mc qL rfl
  refine ev_hp (h' := MH c th L n tn P K S ty z y (ev_la 1 F :: tl)) rfl ?_
  refine ev_aload_n dL_law_416 rfl ?_
  refine ev_callV dL_law_417 cv_L_88 rfl rfl (Nat.le_of_ble_eq_true rfl) (ct_Mfoldable (d := d + 37) (rs := rs) ok) (Nat.zero_le _) (Nat.zero_le _) rfl (fun v h2 q => ?_)
  obtain ⟨qv, y1, rfl⟩ := q
  cases Sum.inl.inj qv
  refine ev_icmp_same (tgt := 761) dL_law_420 rfl ?_
  refine ev_hp (h' := rp c (MC 0 (L, n, tn, P, K) S ty z y1 F ++ tl)) rfl ?_
  refine ev_room (kc' := k + (15 - e)) (ks' := 6 * k + (4194304 - 128 * 2 ^ e)) (by omega) (by omega) ?_
  refine ev_iinc dL_law_761 rfl ?_
  refine ev_goto (tgt := 23) dL_law_764 rfl ?_
  exact ih (i + 4) 0 (L, n, tn, P, K) S ty (rd_go (L, n, tn, P, K) rs) z y1 F e kn _ _ _ (by omega) (by omega) (by omega) ⟨qN (MC 0 (L, n, tn, P, K) S ty z y1 F) rfl, ⟨t0, t1⟩, hS⟩
theorem law_steps (hs : ev_SC g) (ih : law_I g d u k) (i0 : 0 ≤ i) (i1 : i + 4 ≤ (ev_sL g : Int)) (hk : (ev_sL g : Int) < i + 4 * (k + 1 : Nat) + 4) (t0 : 0 ≤ ty) (t1 : ty ≤ 60) (hS : ∀ i, 0 ≤ i → i < 60 → 0 ≤ S i ∧ S i ≤ 126) (hLO : LO (L, n, tn, P, K) ty rs S (MC th (L, n, tn, P, K) S ty z y F) e kn h) :
    ev_E g false mL_law (d + 40) 425 [some (.float u), some (.ref 0), some (.ref 16), some (.ref 31), some (ev_i i), o5, o6] [] h (k + 1 + (15 - e)) (6 * (k + 1) + (4194304 - 128 * 2 ^ e)) (fun o _ => o = .inl (some (ev_i 1))) := by
  have ok : sp_ok L n P K := LO_ok hLO
  have e15 := LO_e hLO
  have ee := ly_e_15 (kn := kn) (s := (L, n, tn, P, K)) ok e15
  have pe : 2 ^ e ≤ 2 ^ ly_e kn e (L, n, tn, P, K) := Nat.pow_le_pow_right (by decide) ee.1
  have pe' : 2 ^ ly_e kn e (L, n, tn, P, K) ≤ 32768 := Nat.pow_le_pow_right (n := 2) (by decide) ee.2
  have hsL := hs.1
  refine ev_aload_n dL_law_425 rfl ?_
  refine ev_callV dL_law_426 cv_L_89 rfl (LO_0 hLO) (Nat.le_of_ble_eq_true rfl) (ct_Xsteps (d := d + 35) (s := (L, n, tn, P, K)) hLO) (by omega) (by omega) rfl (fun v h1 q => ?_)
  obtain ⟨qv, qL⟩ := q
  cases Sum.inl.inj qv
  obtain ⟨c, tl, rfl, qN⟩ := LO_mc qL rfl
  refine ev_hp (h' := MH c th L n tn P K S ty z y (ev_la 1 F :: tl)) rfl ?_
  refine ev_aload_n dL_law_429 rfl ?_
  refine ev_callV dL_law_430 cv_L_92 rfl rfl (Nat.le_of_ble_eq_true rfl) (ct_Msteps (d := d + 37) (rs := rs) ok) (Nat.zero_le _) (Nat.zero_le _) rfl (fun v h2 q => ?_)
  obtain ⟨qv, y1, rfl⟩ := q
  cases Sum.inl.inj qv
  refine ev_icmp_same (tgt := 761) dL_law_433 rfl ?_
  refine ev_hp (h' := rp c (MC 0 (L, n, tn, P, K) S ty z y1 F ++ tl)) rfl ?_
  refine ev_room (kc' := k + (15 - e)) (ks' := 6 * k + (4194304 - 128 * 2 ^ e)) (by omega) (by omega) ?_
  refine ev_iinc dL_law_761 rfl ?_
  refine ev_goto (tgt := 23) dL_law_764 rfl ?_
  exact ih (i + 4) 0 (L, n, tn, P, K) S ty (rd_go (L, n, tn, P, K) rs) z y1 F e kn _ _ _ (by omega) (by omega) (by omega) ⟨qN (MC 0 (L, n, tn, P, K) S ty z y1 F) rfl, ⟨t0, t1⟩, hS⟩
theorem law_step (hs : ev_SC g) (ih : law_I g d u k) (i0 : 0 ≤ i) (i1 : i + 4 ≤ (ev_sL g : Int)) (hk : (ev_sL g : Int) < i + 4 * (k + 1 : Nat) + 4) (t0 : 0 ≤ ty) (t1 : ty ≤ 60) (hS : ∀ i, 0 ≤ i → i < 60 → 0 ≤ S i ∧ S i ≤ 126) (hLO : LO (L, n, tn, P, K) ty rs S (MC th (L, n, tn, P, K) S ty z y F) e kn h) :
    ev_E g false mL_law (d + 40) 438 [some (.float u), some (.ref 0), some (.ref 16), some (.ref 31), some (ev_i i), o5, o6] [] h (k + 1 + (15 - e)) (6 * (k + 1) + (4194304 - 128 * 2 ^ e)) (fun o _ => o = .inl (some (ev_i 1))) := by
  have ok : sp_ok L n P K := LO_ok hLO
  have e15 := LO_e hLO
  have ee := ly_e_15 (kn := kn) (s := (L, n, tn, P, K)) ok e15
  have pe : 2 ^ e ≤ 2 ^ ly_e kn e (L, n, tn, P, K) := Nat.pow_le_pow_right (by decide) ee.1
  have pe' : 2 ^ ly_e kn e (L, n, tn, P, K) ≤ 32768 := Nat.pow_le_pow_right (n := 2) (by decide) ee.2
  have hsL := hs.1
  refine ev_aload_n dL_law_438 rfl ?_
  refine ev_sload_n dL_law_439 rfl ?_
  refine ev_iload dL_law_440 rfl ?_
  refine ev_iconst dL_law_442 ?_
  refine ev_iadd dL_law_443 ?_
  refine ev_sald hs dL_law_444 (by omega) (by omega) ?_
  refine ev_sload_n dL_law_445 rfl ?_
  refine ev_iload dL_law_446 rfl ?_
  refine ev_iconst dL_law_448 ?_
  refine ev_iadd dL_law_449 ?_
  refine ev_sald hs dL_law_450 (by omega) (by omega) ?_
  refine ev_aload_n dL_law_451 rfl ?_
  refine ev_callSW (n := 4) (M' := mL_step) dL_law_452 wm_L_93 wi_L ws_L_step wc_L_step ⟨by decide +kernel, by decide +kernel⟩ (by decide +kernel) (by decide) rfl (Nat.le_of_ble_eq_true rfl) (ct_Lstep (d := d + 32) (s := (L, n, tn, P, K)) (rs := rs) (F := F) (sxi_bd g (i + 1)).1 (sxi_bd g (i + 1)).2 (sxi_bd g (i + 2)).1 (sxi_bd g (i + 2)).2 rfl hLO) (by omega) (by omega) rfl (fun v h1 q => ?_)
  obtain ⟨F1, qv, qL, qF⟩ := lw_one q
  cases Sum.inl.inj qv
  have mb := mo_c_bd cd_O_bd (lb_step (L, n, tn, P, K) rs (sxi g (i + 1)) (sxi g (i + 2)))
  obtain ⟨c, tl, rfl, qN⟩ := LO_mc qL rfl
  refine ev_hp (h' := MH c th L n tn P K S ty z y (ev_la 1 F1 :: tl)) rfl ?_
  refine ev_istore dL_law_455 (Nat.le_of_ble_eq_true rfl) ?_
  refine ev_aload_n dL_law_457 rfl ?_
  refine ev_sload_n dL_law_458 rfl ?_
  refine ev_iload dL_law_459 rfl ?_
  refine ev_iconst dL_law_461 ?_
  refine ev_iadd dL_law_462 ?_
  refine ev_sald hs dL_law_463 (by omega) (by omega) ?_
  refine ev_sload_n dL_law_464 rfl ?_
  refine ev_iload dL_law_465 rfl ?_
  refine ev_iconst dL_law_467 ?_
  refine ev_iadd dL_law_468 ?_
  refine ev_sald hs dL_law_469 (by omega) (by omega) ?_
  refine ev_callV dL_law_470 cv_L_95 rfl rfl (Nat.le_of_ble_eq_true rfl) (ct_Mstep (d := d + 37) (rs := rs) (sxi_bd g (i + 1)).1 (sxi_bd g (i + 1)).2 (sxi_bd g (i + 2)).1 (sxi_bd g (i + 2)).2 ok) (Nat.zero_le _) (Nat.zero_le _) rfl (fun v h2 q => ?_)
  obtain ⟨qv, y1, rfl⟩ := q
  cases Sum.inl.inj qv
  refine ev_istore dL_law_473 (Nat.le_of_ble_eq_true rfl) ?_
  refine ev_aload_n dL_law_475 rfl ?_
  refine ev_cV dL_law_476 cv_L_53 (ct_Mthrown (d := d + 39) (c := c) (th := (mo_c cd_O (lb_step (L, n, tn, P, K) rs (sxi g (i + 1)) (sxi g (i + 2))))) (L := L) (n := n) (tn := tn) (P := P) (K := K) (S := S) (ty := ty) (z := z) (y := y1) (t := ev_la 1 F1 :: tl)) rfl rfl rfl (Nat.le_of_ble_eq_true rfl) (Nat.zero_le _) (Nat.zero_le _) ?_
  refine ev_iload dL_law_479 rfl ?_
  refine ev_icmp_same (tgt := 486) dL_law_481 rfl ?_
  refine ev_iload dL_law_486 rfl ?_
  refine ev_if_ne (tgt := 503) dL_law_488 rfl (by omega) (by omega) (fun w1 => ?_) (fun w1 => ?_)
  · refine ev_goto (tgt := 761) dL_law_503 rfl ?_
    refine ev_hp (h' := rp c (MC (mo_c cd_O (lb_step (L, n, tn, P, K) rs (sxi g (i + 1)) (sxi g (i + 2)))) (L, n, tn, P, K) S ty z y1 F1 ++ tl)) rfl ?_
    refine ev_room (kc' := k + (15 - e)) (ks' := 6 * k + (4194304 - 128 * 2 ^ e)) (by omega) (by omega) ?_
    refine ev_iinc dL_law_761 rfl ?_
    refine ev_goto (tgt := 23) dL_law_764 rfl ?_
    exact ih (i + 4) (mo_c cd_O (lb_step (L, n, tn, P, K) rs (sxi g (i + 1)) (sxi g (i + 2)))) (L, n, tn, P, K) S ty (if (sxi g (i + 1)) < 0 then rs else rd_go (L, n, tn, P, K) rs) z y1 F1 e kn _ _ _ (by omega) (by omega) (by omega) ⟨qN (MC (mo_c cd_O (lb_step (L, n, tn, P, K) rs (sxi g (i + 1)) (sxi g (i + 2)))) (L, n, tn, P, K) S ty z y1 F1) rfl, ⟨t0, t1⟩, hS⟩
  · obtain ⟨w, hw, hw2⟩ := mb.2.2 w1
    have qF0 : F1 (0 : Int).toNat = (Int32.ofInt w).toInt64 := qF w hw
    refine ev_aload_n dL_law_491 rfl ?_
    refine ev_iconst dL_law_492 ?_
    refine ev_lald dL_law_493 rfl (by omega) (by omega) (by decide) ?_
    refine ev_iload dL_law_494 rfl ?_
    refine ev_i2l dL_law_496 ?_
    rw [qF0, hw2]
    refine ev_lcmp_same dL_law_497 ?_
    refine ev_if_eq (tgt := 503) dL_law_498 rfl (by omega) (by omega) (fun w2 => ?_) (fun w2 => ?_)
    · refine ev_goto (tgt := 761) dL_law_503 rfl ?_
      refine ev_hp (h' := rp c (MC (mo_c cd_O (lb_step (L, n, tn, P, K) rs (sxi g (i + 1)) (sxi g (i + 2)))) (L, n, tn, P, K) S ty z y1 F1 ++ tl)) rfl ?_
      refine ev_room (kc' := k + (15 - e)) (ks' := 6 * k + (4194304 - 128 * 2 ^ e)) (by omega) (by omega) ?_
      refine ev_iinc dL_law_761 rfl ?_
      refine ev_goto (tgt := 23) dL_law_764 rfl ?_
      exact ih (i + 4) (mo_c cd_O (lb_step (L, n, tn, P, K) rs (sxi g (i + 1)) (sxi g (i + 2)))) (L, n, tn, P, K) S ty (if (sxi g (i + 1)) < 0 then rs else rd_go (L, n, tn, P, K) rs) z y1 F1 e kn _ _ _ (by omega) (by omega) (by omega) ⟨qN (MC (mo_c cd_O (lb_step (L, n, tn, P, K) rs (sxi g (i + 1)) (sxi g (i + 2)))) (L, n, tn, P, K) S ty z y1 F1) rfl, ⟨t0, t1⟩, hS⟩
    · exact absurd rfl w2
theorem law_orders (hs : ev_SC g) (ih : law_I g d u k) (i0 : 0 ≤ i) (i1 : i + 4 ≤ (ev_sL g : Int)) (hk : (ev_sL g : Int) < i + 4 * (k + 1 : Nat) + 4) (t0 : 0 ≤ ty) (t1 : ty ≤ 60) (hS : ∀ i, 0 ≤ i → i < 60 → 0 ≤ S i ∧ S i ≤ 126) (hLO : LO (L, n, tn, P, K) ty rs S (MC th (L, n, tn, P, K) S ty z y F) e kn h) :
    ev_E g false mL_law (d + 40) 506 [some (.float u), some (.ref 0), some (.ref 16), some (.ref 31), some (ev_i i), o5, o6] [] h (k + 1 + (15 - e)) (6 * (k + 1) + (4194304 - 128 * 2 ^ e)) (fun o _ => o = .inl (some (ev_i 1))) := by
  have ok : sp_ok L n P K := LO_ok hLO
  have e15 := LO_e hLO
  have ee := ly_e_15 (kn := kn) (s := (L, n, tn, P, K)) ok e15
  have pe : 2 ^ e ≤ 2 ^ ly_e kn e (L, n, tn, P, K) := Nat.pow_le_pow_right (by decide) ee.1
  have pe' : 2 ^ ly_e kn e (L, n, tn, P, K) ≤ 32768 := Nat.pow_le_pow_right (n := 2) (by decide) ee.2
  have hsL := hs.1
  refine ev_aload_n dL_law_506 rfl ?_
  refine ev_callV dL_law_507 cv_L_96 rfl (LO_0 hLO) (Nat.le_of_ble_eq_true rfl) (ct_Forders (d := d + 12) (s := (L, n, tn, P, K)) hLO) (by omega) (by omega) rfl (fun v h1 q => ?_)
  obtain ⟨qv, qL⟩ := q
  cases Sum.inl.inj qv
  obtain ⟨c, tl, rfl, qN⟩ := LO_mc qL rfl
  refine ev_hp (h' := MH c th L n tn P K S ty z y (ev_la 1 F :: tl)) rfl ?_
  refine ev_aload_n dL_law_510 rfl ?_
  refine ev_callV dL_law_511 cv_L_99 rfl rfl (Nat.le_of_ble_eq_true rfl) (ct_Morders (d := d + 34) ok) (Nat.zero_le _) (Nat.zero_le _) rfl (fun v h2 q => ?_)
  obtain ⟨qv, z1, rfl⟩ := q
  cases Sum.inl.inj qv
  refine ev_icmp_same (tgt := 761) dL_law_514 rfl ?_
  refine ev_hp (h' := rp c (MC 0 (L, n, tn, P, K) S ty z1 y F ++ tl)) rfl ?_
  refine ev_room (kc' := k + (15 - (ly_e kn e (L, n, tn, P, K)))) (ks' := 6 * k + (4194304 - 128 * 2 ^ (ly_e kn e (L, n, tn, P, K)))) (by omega) (by omega) ?_
  refine ev_iinc dL_law_761 rfl ?_
  refine ev_goto (tgt := 23) dL_law_764 rfl ?_
  exact ih (i + 4) 0 (L, n, tn, P, K) S ty rs z1 y F (ly_e kn e (L, n, tn, P, K)) true _ _ _ (by omega) (by omega) (by omega) ⟨qN (MC 0 (L, n, tn, P, K) S ty z1 y F) rfl, ⟨t0, t1⟩, hS⟩
theorem law_above (hs : ev_SC g) (ih : law_I g d u k) (i0 : 0 ≤ i) (i1 : i + 4 ≤ (ev_sL g : Int)) (hk : (ev_sL g : Int) < i + 4 * (k + 1 : Nat) + 4) (t0 : 0 ≤ ty) (t1 : ty ≤ 60) (hS : ∀ i, 0 ≤ i → i < 60 → 0 ≤ S i ∧ S i ≤ 126) (hLO : LO (L, n, tn, P, K) ty rs S (MC th (L, n, tn, P, K) S ty z y F) e kn h) :
    ev_E g false mL_law (d + 40) 519 [some (.float u), some (.ref 0), some (.ref 16), some (.ref 31), some (ev_i i), o5, o6] [] h (k + 1 + (15 - e)) (6 * (k + 1) + (4194304 - 128 * 2 ^ e)) (fun o _ => o = .inl (some (ev_i 1))) := by
  have ok : sp_ok L n P K := LO_ok hLO
  have e15 := LO_e hLO
  have ee := ly_e_15 (kn := kn) (s := (L, n, tn, P, K)) ok e15
  have pe : 2 ^ e ≤ 2 ^ ly_e kn e (L, n, tn, P, K) := Nat.pow_le_pow_right (by decide) ee.1
  have pe' : 2 ^ ly_e kn e (L, n, tn, P, K) ≤ 32768 := Nat.pow_le_pow_right (n := 2) (by decide) ee.2
  have hsL := hs.1
  refine ev_aload_n dL_law_519 rfl ?_
  refine ev_sload_n dL_law_520 rfl ?_
  refine ev_iload dL_law_521 rfl ?_
  refine ev_iconst dL_law_523 ?_
  refine ev_iadd dL_law_524 ?_
  refine ev_sald hs dL_law_525 (by omega) (by omega) ?_
  refine ev_sload_n dL_law_526 rfl ?_
  refine ev_iload dL_law_527 rfl ?_
  refine ev_iconst dL_law_529 ?_
  refine ev_iadd dL_law_530 ?_
  refine ev_sald hs dL_law_531 (by omega) (by omega) ?_
  refine ev_sload_n dL_law_532 rfl ?_
  refine ev_iload dL_law_533 rfl ?_
  refine ev_iconst dL_law_535 ?_
  refine ev_iadd dL_law_536 ?_
  refine ev_sald hs dL_law_537 (by omega) (by omega) ?_
  refine ev_aload_n dL_law_538 rfl ?_
  refine ev_callSW (n := 5) (M' := mL_above) dL_law_539 wm_L_100 wi_L ws_L_above wc_L_above ⟨by decide +kernel, by decide +kernel⟩ (by decide +kernel) (by decide) rfl (Nat.le_of_ble_eq_true rfl) (ct_Labove (d := d + 11) (s := (L, n, tn, P, K)) (rs := rs) (F := F) (sxi_bd g (i + 1)).1 (sxi_bd g (i + 1)).2 (sxi_bd g (i + 2)).1 (sxi_bd g (i + 2)).2 (sxi_bd g (i + 3)).1 (sxi_bd g (i + 3)).2 rfl hLO) (by omega) (by omega) rfl (fun v h1 q => ?_)
  obtain ⟨F1, qv, qL, qF⟩ := lw_one q
  cases Sum.inl.inj qv
  have mb := mo_c_bd cd_O_bd (lb_above (L, n, tn, P, K) (sxi g (i + 1)) (sxi g (i + 2)) (sxi g (i + 3)))
  obtain ⟨c, tl, rfl, qN⟩ := LO_mc qL rfl
  refine ev_hp (h' := MH c th L n tn P K S ty z y (ev_la 1 F1 :: tl)) rfl ?_
  refine ev_istore dL_law_542 (Nat.le_of_ble_eq_true rfl) ?_
  refine ev_aload_n dL_law_544 rfl ?_
  refine ev_sload_n dL_law_545 rfl ?_
  refine ev_iload dL_law_546 rfl ?_
  refine ev_iconst dL_law_548 ?_
  refine ev_iadd dL_law_549 ?_
  refine ev_sald hs dL_law_550 (by omega) (by omega) ?_
  refine ev_sload_n dL_law_551 rfl ?_
  refine ev_iload dL_law_552 rfl ?_
  refine ev_iconst dL_law_554 ?_
  refine ev_iadd dL_law_555 ?_
  refine ev_sald hs dL_law_556 (by omega) (by omega) ?_
  refine ev_sload_n dL_law_557 rfl ?_
  refine ev_iload dL_law_558 rfl ?_
  refine ev_iconst dL_law_560 ?_
  refine ev_iadd dL_law_561 ?_
  refine ev_sald hs dL_law_562 (by omega) (by omega) ?_
  refine ev_callV dL_law_563 cv_L_103 rfl rfl (Nat.le_of_ble_eq_true rfl) (ct_Mabove (d := d + 34) (sxi_bd g (i + 1)).1 (sxi_bd g (i + 1)).2 (sxi_bd g (i + 2)).1 (sxi_bd g (i + 2)).2 (sxi_bd g (i + 3)).1 (sxi_bd g (i + 3)).2 ok) (Nat.zero_le _) (Nat.zero_le _) rfl (fun v h2 q => ?_)
  obtain ⟨qv, z1, rfl⟩ := q
  cases Sum.inl.inj qv
  refine ev_istore dL_law_566 (Nat.le_of_ble_eq_true rfl) ?_
  refine ev_aload_n dL_law_568 rfl ?_
  refine ev_cV dL_law_569 cv_L_53 (ct_Mthrown (d := d + 39) (c := c) (th := (mo_c cd_O (lb_above (L, n, tn, P, K) (sxi g (i + 1)) (sxi g (i + 2)) (sxi g (i + 3))))) (L := L) (n := n) (tn := tn) (P := P) (K := K) (S := S) (ty := ty) (z := z1) (y := y) (t := ev_la 1 F1 :: tl)) rfl rfl rfl (Nat.le_of_ble_eq_true rfl) (Nat.zero_le _) (Nat.zero_le _) ?_
  refine ev_iload dL_law_572 rfl ?_
  refine ev_icmp_same (tgt := 579) dL_law_574 rfl ?_
  refine ev_iload dL_law_579 rfl ?_
  refine ev_if_ne (tgt := 596) dL_law_581 rfl (by omega) (by omega) (fun w1 => ?_) (fun w1 => ?_)
  · refine ev_goto (tgt := 761) dL_law_596 rfl ?_
    refine ev_hp (h' := rp c (MC (mo_c cd_O (lb_above (L, n, tn, P, K) (sxi g (i + 1)) (sxi g (i + 2)) (sxi g (i + 3)))) (L, n, tn, P, K) S ty z1 y F1 ++ tl)) rfl ?_
    refine ev_room (kc' := k + (15 - (ly_e kn e (L, n, tn, P, K)))) (ks' := 6 * k + (4194304 - 128 * 2 ^ (ly_e kn e (L, n, tn, P, K)))) (by omega) (by omega) ?_
    refine ev_iinc dL_law_761 rfl ?_
    refine ev_goto (tgt := 23) dL_law_764 rfl ?_
    exact ih (i + 4) (mo_c cd_O (lb_above (L, n, tn, P, K) (sxi g (i + 1)) (sxi g (i + 2)) (sxi g (i + 3)))) (L, n, tn, P, K) S ty rs z1 y F1 (ly_e kn e (L, n, tn, P, K)) true _ _ _ (by omega) (by omega) (by omega) ⟨qN (MC (mo_c cd_O (lb_above (L, n, tn, P, K) (sxi g (i + 1)) (sxi g (i + 2)) (sxi g (i + 3)))) (L, n, tn, P, K) S ty z1 y F1) rfl, ⟨t0, t1⟩, hS⟩
  · obtain ⟨w, hw, hw2⟩ := mb.2.2 w1
    have qF0 : F1 (0 : Int).toNat = (Int32.ofInt w).toInt64 := qF w hw
    refine ev_aload_n dL_law_584 rfl ?_
    refine ev_iconst dL_law_585 ?_
    refine ev_lald dL_law_586 rfl (by omega) (by omega) (by decide) ?_
    refine ev_iload dL_law_587 rfl ?_
    refine ev_i2l dL_law_589 ?_
    rw [qF0, hw2]
    refine ev_lcmp_same dL_law_590 ?_
    refine ev_if_eq (tgt := 596) dL_law_591 rfl (by omega) (by omega) (fun w2 => ?_) (fun w2 => ?_)
    · refine ev_goto (tgt := 761) dL_law_596 rfl ?_
      refine ev_hp (h' := rp c (MC (mo_c cd_O (lb_above (L, n, tn, P, K) (sxi g (i + 1)) (sxi g (i + 2)) (sxi g (i + 3)))) (L, n, tn, P, K) S ty z1 y F1 ++ tl)) rfl ?_
      refine ev_room (kc' := k + (15 - (ly_e kn e (L, n, tn, P, K)))) (ks' := 6 * k + (4194304 - 128 * 2 ^ (ly_e kn e (L, n, tn, P, K)))) (by omega) (by omega) ?_
      refine ev_iinc dL_law_761 rfl ?_
      refine ev_goto (tgt := 23) dL_law_764 rfl ?_
      exact ih (i + 4) (mo_c cd_O (lb_above (L, n, tn, P, K) (sxi g (i + 1)) (sxi g (i + 2)) (sxi g (i + 3)))) (L, n, tn, P, K) S ty rs z1 y F1 (ly_e kn e (L, n, tn, P, K)) true _ _ _ (by omega) (by omega) (by omega) ⟨qN (MC (mo_c cd_O (lb_above (L, n, tn, P, K) (sxi g (i + 1)) (sxi g (i + 2)) (sxi g (i + 3)))) (L, n, tn, P, K) S ty z1 y F1) rfl, ⟨t0, t1⟩, hS⟩
    · exact absurd rfl w2
theorem law_layer (hs : ev_SC g) (ih : law_I g d u k) (i0 : 0 ≤ i) (i1 : i + 4 ≤ (ev_sL g : Int)) (hk : (ev_sL g : Int) < i + 4 * (k + 1 : Nat) + 4) (t0 : 0 ≤ ty) (t1 : ty ≤ 60) (hS : ∀ i, 0 ≤ i → i < 60 → 0 ≤ S i ∧ S i ≤ 126) (hLO : LO (L, n, tn, P, K) ty rs S (MC th (L, n, tn, P, K) S ty z y F) e kn h) :
    ev_E g false mL_law (d + 40) 599 [some (.float u), some (.ref 0), some (.ref 16), some (.ref 31), some (ev_i i), o5, o6] [] h (k + 1 + (15 - e)) (6 * (k + 1) + (4194304 - 128 * 2 ^ e)) (fun o _ => o = .inl (some (ev_i 1))) := by
  have ok : sp_ok L n P K := LO_ok hLO
  have e15 := LO_e hLO
  have ee := ly_e_15 (kn := kn) (s := (L, n, tn, P, K)) ok e15
  have pe : 2 ^ e ≤ 2 ^ ly_e kn e (L, n, tn, P, K) := Nat.pow_le_pow_right (by decide) ee.1
  have pe' : 2 ^ ly_e kn e (L, n, tn, P, K) ≤ 32768 := Nat.pow_le_pow_right (n := 2) (by decide) ee.2
  have hsL := hs.1
  refine ev_aload_n dL_law_599 rfl ?_
  refine ev_sload_n dL_law_600 rfl ?_
  refine ev_iload dL_law_601 rfl ?_
  refine ev_iconst dL_law_603 ?_
  refine ev_iadd dL_law_604 ?_
  refine ev_sald hs dL_law_605 (by omega) (by omega) ?_
  refine ev_sload_n dL_law_606 rfl ?_
  refine ev_iload dL_law_607 rfl ?_
  refine ev_iconst dL_law_609 ?_
  refine ev_iadd dL_law_610 ?_
  refine ev_sald hs dL_law_611 (by omega) (by omega) ?_
  refine ev_sload_n dL_law_612 rfl ?_
  refine ev_iload dL_law_613 rfl ?_
  refine ev_iconst dL_law_615 ?_
  refine ev_iadd dL_law_616 ?_
  refine ev_sald hs dL_law_617 (by omega) (by omega) ?_
  refine ev_aload_n dL_law_618 rfl ?_
  refine ev_callSW (n := 5) (M' := mL_layer) dL_law_619 wm_L_104 wi_L ws_L_layer wc_L_layer ⟨by decide +kernel, by decide +kernel⟩ (by decide +kernel) (by decide) rfl (Nat.le_of_ble_eq_true rfl) (ct_Llayer (d := d + 11) (s := (L, n, tn, P, K)) (rs := rs) (F := F) (sxi_bd g (i + 1)).1 (sxi_bd g (i + 1)).2 (sxi_bd g (i + 2)).1 (sxi_bd g (i + 2)).2 (sxi_bd g (i + 3)).1 (sxi_bd g (i + 3)).2 rfl hLO) (by omega) (by omega) rfl (fun v h1 q => ?_)
  obtain ⟨F1, qv, qL, qF⟩ := lw_one q
  cases Sum.inl.inj qv
  have mb := mo_c_bd cd_O_bd (lb_layer (L, n, tn, P, K) (sxi g (i + 1)) (sxi g (i + 2)) (sxi g (i + 3)))
  obtain ⟨c, tl, rfl, qN⟩ := LO_mc qL rfl
  refine ev_hp (h' := MH c th L n tn P K S ty z y (ev_la 1 F1 :: tl)) rfl ?_
  refine ev_istore dL_law_622 (Nat.le_of_ble_eq_true rfl) ?_
  refine ev_aload_n dL_law_624 rfl ?_
  refine ev_sload_n dL_law_625 rfl ?_
  refine ev_iload dL_law_626 rfl ?_
  refine ev_iconst dL_law_628 ?_
  refine ev_iadd dL_law_629 ?_
  refine ev_sald hs dL_law_630 (by omega) (by omega) ?_
  refine ev_sload_n dL_law_631 rfl ?_
  refine ev_iload dL_law_632 rfl ?_
  refine ev_iconst dL_law_634 ?_
  refine ev_iadd dL_law_635 ?_
  refine ev_sald hs dL_law_636 (by omega) (by omega) ?_
  refine ev_sload_n dL_law_637 rfl ?_
  refine ev_iload dL_law_638 rfl ?_
  refine ev_iconst dL_law_640 ?_
  refine ev_iadd dL_law_641 ?_
  refine ev_sald hs dL_law_642 (by omega) (by omega) ?_
  refine ev_callV dL_law_643 cv_L_106 rfl rfl (Nat.le_of_ble_eq_true rfl) (ct_Mlayer (d := d + 34) (sxi_bd g (i + 1)).1 (sxi_bd g (i + 1)).2 (sxi_bd g (i + 2)).1 (sxi_bd g (i + 2)).2 (sxi_bd g (i + 3)).1 (sxi_bd g (i + 3)).2 ok) (Nat.zero_le _) (Nat.zero_le _) rfl (fun v h2 q => ?_)
  obtain ⟨qv, z1, rfl⟩ := q
  cases Sum.inl.inj qv
  refine ev_istore dL_law_646 (Nat.le_of_ble_eq_true rfl) ?_
  refine ev_aload_n dL_law_648 rfl ?_
  refine ev_cV dL_law_649 cv_L_53 (ct_Mthrown (d := d + 39) (c := c) (th := (mo_c cd_O (lb_layer (L, n, tn, P, K) (sxi g (i + 1)) (sxi g (i + 2)) (sxi g (i + 3))))) (L := L) (n := n) (tn := tn) (P := P) (K := K) (S := S) (ty := ty) (z := z1) (y := y) (t := ev_la 1 F1 :: tl)) rfl rfl rfl (Nat.le_of_ble_eq_true rfl) (Nat.zero_le _) (Nat.zero_le _) ?_
  refine ev_iload dL_law_652 rfl ?_
  refine ev_icmp_same (tgt := 659) dL_law_654 rfl ?_
  refine ev_iload dL_law_659 rfl ?_
  refine ev_if_ne (tgt := 676) dL_law_661 rfl (by omega) (by omega) (fun w1 => ?_) (fun w1 => ?_)
  · refine ev_goto (tgt := 761) dL_law_676 rfl ?_
    refine ev_hp (h' := rp c (MC (mo_c cd_O (lb_layer (L, n, tn, P, K) (sxi g (i + 1)) (sxi g (i + 2)) (sxi g (i + 3)))) (L, n, tn, P, K) S ty z1 y F1 ++ tl)) rfl ?_
    refine ev_room (kc' := k + (15 - (ly_e kn e (L, n, tn, P, K)))) (ks' := 6 * k + (4194304 - 128 * 2 ^ (ly_e kn e (L, n, tn, P, K)))) (by omega) (by omega) ?_
    refine ev_iinc dL_law_761 rfl ?_
    refine ev_goto (tgt := 23) dL_law_764 rfl ?_
    exact ih (i + 4) (mo_c cd_O (lb_layer (L, n, tn, P, K) (sxi g (i + 1)) (sxi g (i + 2)) (sxi g (i + 3)))) (L, n, tn, P, K) S ty rs z1 y F1 (ly_e kn e (L, n, tn, P, K)) true _ _ _ (by omega) (by omega) (by omega) ⟨qN (MC (mo_c cd_O (lb_layer (L, n, tn, P, K) (sxi g (i + 1)) (sxi g (i + 2)) (sxi g (i + 3)))) (L, n, tn, P, K) S ty z1 y F1) rfl, ⟨t0, t1⟩, hS⟩
  · obtain ⟨w, hw, hw2⟩ := mb.2.2 w1
    have qF0 : F1 (0 : Int).toNat = (Int32.ofInt w).toInt64 := qF w hw
    refine ev_aload_n dL_law_664 rfl ?_
    refine ev_iconst dL_law_665 ?_
    refine ev_lald dL_law_666 rfl (by omega) (by omega) (by decide) ?_
    refine ev_iload dL_law_667 rfl ?_
    refine ev_i2l dL_law_669 ?_
    rw [qF0, hw2]
    refine ev_lcmp_same dL_law_670 ?_
    refine ev_if_eq (tgt := 676) dL_law_671 rfl (by omega) (by omega) (fun w2 => ?_) (fun w2 => ?_)
    · refine ev_goto (tgt := 761) dL_law_676 rfl ?_
      refine ev_hp (h' := rp c (MC (mo_c cd_O (lb_layer (L, n, tn, P, K) (sxi g (i + 1)) (sxi g (i + 2)) (sxi g (i + 3)))) (L, n, tn, P, K) S ty z1 y F1 ++ tl)) rfl ?_
      refine ev_room (kc' := k + (15 - (ly_e kn e (L, n, tn, P, K)))) (ks' := 6 * k + (4194304 - 128 * 2 ^ (ly_e kn e (L, n, tn, P, K)))) (by omega) (by omega) ?_
      refine ev_iinc dL_law_761 rfl ?_
      refine ev_goto (tgt := 23) dL_law_764 rfl ?_
      exact ih (i + 4) (mo_c cd_O (lb_layer (L, n, tn, P, K) (sxi g (i + 1)) (sxi g (i + 2)) (sxi g (i + 3)))) (L, n, tn, P, K) S ty rs z1 y F1 (ly_e kn e (L, n, tn, P, K)) true _ _ _ (by omega) (by omega) (by omega) ⟨qN (MC (mo_c cd_O (lb_layer (L, n, tn, P, K) (sxi g (i + 1)) (sxi g (i + 2)) (sxi g (i + 3)))) (L, n, tn, P, K) S ty z1 y F1) rfl, ⟨t0, t1⟩, hS⟩
    · exact absurd rfl w2
theorem law_marks (hs : ev_SC g) (ih : law_I g d u k) (i0 : 0 ≤ i) (i1 : i + 4 ≤ (ev_sL g : Int)) (hk : (ev_sL g : Int) < i + 4 * (k + 1 : Nat) + 4) (t0 : 0 ≤ ty) (t1 : ty ≤ 60) (hS : ∀ i, 0 ≤ i → i < 60 → 0 ≤ S i ∧ S i ≤ 126) (hLO : LO (L, n, tn, P, K) ty rs S (MC th (L, n, tn, P, K) S ty z y F) e kn h) :
    ev_E g false mL_law (d + 40) 679 [some (.float u), some (.ref 0), some (.ref 16), some (.ref 31), some (ev_i i), o5, o6] [] h (k + 1 + (15 - e)) (6 * (k + 1) + (4194304 - 128 * 2 ^ e)) (fun o _ => o = .inl (some (ev_i 1))) := by
  have ok : sp_ok L n P K := LO_ok hLO
  have e15 := LO_e hLO
  have ee := ly_e_15 (kn := kn) (s := (L, n, tn, P, K)) ok e15
  have pe : 2 ^ e ≤ 2 ^ ly_e kn e (L, n, tn, P, K) := Nat.pow_le_pow_right (by decide) ee.1
  have pe' : 2 ^ ly_e kn e (L, n, tn, P, K) ≤ 32768 := Nat.pow_le_pow_right (n := 2) (by decide) ee.2
  have hsL := hs.1
  refine ev_aload_n dL_law_679 rfl ?_
  refine ev_callV dL_law_680 cv_L_107 rfl (LO_0 hLO) (Nat.le_of_ble_eq_true rfl) (ct_Xmarks (d := d + 12) (s := (L, n, tn, P, K)) hLO) (by omega) (by omega) rfl (fun v h1 q => ?_)
  obtain ⟨qv, qL⟩ := q
  cases Sum.inl.inj qv
  obtain ⟨c, tl, rfl, qN⟩ := LO_mc qL rfl
  refine ev_hp (h' := MH c th L n tn P K S ty z y (ev_la 1 F :: tl)) rfl ?_
  refine ev_aload_n dL_law_683 rfl ?_
  refine ev_callV dL_law_684 cv_L_110 rfl rfl (Nat.le_of_ble_eq_true rfl) (ct_Mmarks (d := d + 34) ok) (Nat.zero_le _) (Nat.zero_le _) rfl (fun v h2 q => ?_)
  obtain ⟨qv, z1, rfl⟩ := q
  cases Sum.inl.inj qv
  rw [mk_cnt ok]
  refine ev_icmp_same (tgt := 761) dL_law_687 rfl ?_
  refine ev_hp (h' := rp c (MC 0 (L, n, tn, P, K) S ty z1 y F ++ tl)) rfl ?_
  refine ev_room (kc' := k + (15 - (ly_e kn e (L, n, tn, P, K)))) (ks' := 6 * k + (4194304 - 128 * 2 ^ (ly_e kn e (L, n, tn, P, K)))) (by omega) (by omega) ?_
  refine ev_iinc dL_law_761 rfl ?_
  refine ev_goto (tgt := 23) dL_law_764 rfl ?_
  exact ih (i + 4) 0 (L, n, tn, P, K) S ty rs z1 y F (ly_e kn e (L, n, tn, P, K)) true _ _ _ (by omega) (by omega) (by omega) ⟨qN (MC 0 (L, n, tn, P, K) S ty z1 y F) rfl, ⟨t0, t1⟩, hS⟩
theorem law_type (hs : ev_SC g) (ih : law_I g d u k) (i0 : 0 ≤ i) (i1 : i + 4 ≤ (ev_sL g : Int)) (hk : (ev_sL g : Int) < i + 4 * (k + 1 : Nat) + 4) (t0 : 0 ≤ ty) (t1 : ty ≤ 60) (hS : ∀ i, 0 ≤ i → i < 60 → 0 ≤ S i ∧ S i ≤ 126) (hLO : LO (L, n, tn, P, K) ty rs S (MC th (L, n, tn, P, K) S ty z y F) e kn h) :
    ev_E g false mL_law (d + 40) 692 [some (.float u), some (.ref 0), some (.ref 16), some (.ref 31), some (ev_i i), o5, o6] [] h (k + 1 + (15 - e)) (6 * (k + 1) + (4194304 - 128 * 2 ^ e)) (fun o _ => o = .inl (some (ev_i 1))) := by
  have ok : sp_ok L n P K := LO_ok hLO
  have e15 := LO_e hLO
  have ee := ly_e_15 (kn := kn) (s := (L, n, tn, P, K)) ok e15
  have pe : 2 ^ e ≤ 2 ^ ly_e kn e (L, n, tn, P, K) := Nat.pow_le_pow_right (by decide) ee.1
  have pe' : 2 ^ ly_e kn e (L, n, tn, P, K) ≤ 32768 := Nat.pow_le_pow_right (n := 2) (by decide) ee.2
  have hsL := hs.1
  refine ev_aload_n dL_law_692 rfl ?_
  refine ev_sload_n dL_law_693 rfl ?_
  refine ev_iload dL_law_694 rfl ?_
  refine ev_iconst dL_law_696 ?_
  refine ev_iadd dL_law_697 ?_
  refine ev_sald hs dL_law_698 (by omega) (by omega) ?_
  refine ev_aload_n dL_law_699 rfl ?_
  refine ev_callSW (n := 3) (M' := mL_type) dL_law_700 wm_L_111 wi_L ws_L_type wc_L_type ⟨by decide +kernel, by decide +kernel⟩ (by decide +kernel) (by decide) rfl (Nat.le_of_ble_eq_true rfl) (ct_Ltype (d := d + 32) (s := (L, n, tn, P, K)) (rs := rs) (F := F) (sxi_bd g (i + 1)).1 (sxi_bd g (i + 1)).2 t0 t1 rfl hLO) (by omega) (by omega) rfl (fun v h1 q => ?_)
  obtain ⟨F1, qv, qL, qF⟩ := lw_one q
  cases Sum.inl.inj qv
  have mb := mo_c_bd cd_A_bd (lb_type ty (sxi g (i + 1)))
  obtain ⟨c, tl, rfl, qN⟩ := LO_mc qL rfl
  refine ev_hp (h' := MH c th L n tn P K S ty z y (ev_la 1 F1 :: tl)) rfl ?_
  refine ev_istore dL_law_703 (Nat.le_of_ble_eq_true rfl) ?_
  refine ev_aload_n dL_law_705 rfl ?_
  refine ev_sload_n dL_law_706 rfl ?_
  refine ev_iload dL_law_707 rfl ?_
  refine ev_iconst dL_law_709 ?_
  refine ev_iadd dL_law_710 ?_
  refine ev_sald hs dL_law_711 (by omega) (by omega) ?_
  refine ev_cV dL_law_712 cv_L_113 (ct_Mtype (d := d + 38) (sxi_bd g (i + 1)).1 (sxi_bd g (i + 1)).2 t0 t1) rfl rfl rfl (Nat.le_of_ble_eq_true rfl) (Nat.zero_le _) (Nat.zero_le _) ?_
  refine ev_istore dL_law_715 (Nat.le_of_ble_eq_true rfl) ?_
  refine ev_aload_n dL_law_717 rfl ?_
  refine ev_cV dL_law_718 cv_L_53 (ct_Mthrown (d := d + 39) (c := c) (th := (mo_c cd_A (lb_type ty (sxi g (i + 1))))) (L := L) (n := n) (tn := tn) (P := P) (K := K) (S := (if (32 ≤ (sxi g (i + 1)) ∧ (sxi g (i + 1)) ≤ 126) ∧ ty < 60 then ev_up S ty (sxi g (i + 1)) else S)) (ty := (if (32 ≤ (sxi g (i + 1)) ∧ (sxi g (i + 1)) ≤ 126) ∧ ty < 60 then ty + 1 else ty)) (z := z) (y := y) (t := ev_la 1 F1 :: tl)) rfl rfl rfl (Nat.le_of_ble_eq_true rfl) (Nat.zero_le _) (Nat.zero_le _) ?_
  refine ev_iload dL_law_721 rfl ?_
  refine ev_icmp_same (tgt := 728) dL_law_723 rfl ?_
  refine ev_iload dL_law_728 rfl ?_
  refine ev_if_ne (tgt := 745) dL_law_730 rfl (by omega) (by omega) (fun w1 => ?_) (fun w1 => ?_)
  · refine ev_goto (tgt := 761) dL_law_745 rfl ?_
    refine ev_hp (h' := rp c (MC (mo_c cd_A (lb_type ty (sxi g (i + 1)))) (L, n, tn, P, K) (if (32 ≤ (sxi g (i + 1)) ∧ (sxi g (i + 1)) ≤ 126) ∧ ty < 60 then ev_up S ty (sxi g (i + 1)) else S) (if (32 ≤ (sxi g (i + 1)) ∧ (sxi g (i + 1)) ≤ 126) ∧ ty < 60 then ty + 1 else ty) z y F1 ++ tl)) rfl ?_
    refine ev_room (kc' := k + (15 - e)) (ks' := 6 * k + (4194304 - 128 * 2 ^ e)) (by omega) (by omega) ?_
    refine ev_iinc dL_law_761 rfl ?_
    refine ev_goto (tgt := 23) dL_law_764 rfl ?_
    exact ih (i + 4) (mo_c cd_A (lb_type ty (sxi g (i + 1)))) (L, n, tn, P, K) (if (32 ≤ (sxi g (i + 1)) ∧ (sxi g (i + 1)) ≤ 126) ∧ ty < 60 then ev_up S ty (sxi g (i + 1)) else S) (if (32 ≤ (sxi g (i + 1)) ∧ (sxi g (i + 1)) ≤ 126) ∧ ty < 60 then ty + 1 else ty) rs z y F1 e kn _ _ _ (by omega) (by omega) (by omega) ⟨qN (MC (mo_c cd_A (lb_type ty (sxi g (i + 1)))) (L, n, tn, P, K) (if (32 ≤ (sxi g (i + 1)) ∧ (sxi g (i + 1)) ≤ 126) ∧ ty < 60 then ev_up S ty (sxi g (i + 1)) else S) (if (32 ≤ (sxi g (i + 1)) ∧ (sxi g (i + 1)) ≤ 126) ∧ ty < 60 then ty + 1 else ty) z y F1) rfl, ty_t t0 t1, ty_S t0 hS⟩
  · obtain ⟨w, hw, hw2⟩ := mb.2.2 w1
    have qF0 : F1 (0 : Int).toNat = (Int32.ofInt w).toInt64 := qF w hw
    refine ev_aload_n dL_law_733 rfl ?_
    refine ev_iconst dL_law_734 ?_
    refine ev_lald dL_law_735 rfl (by omega) (by omega) (by decide) ?_
    refine ev_iload dL_law_736 rfl ?_
    refine ev_i2l dL_law_738 ?_
    rw [qF0, hw2]
    refine ev_lcmp_same dL_law_739 ?_
    refine ev_if_eq (tgt := 745) dL_law_740 rfl (by omega) (by omega) (fun w2 => ?_) (fun w2 => ?_)
    · refine ev_goto (tgt := 761) dL_law_745 rfl ?_
      refine ev_hp (h' := rp c (MC (mo_c cd_A (lb_type ty (sxi g (i + 1)))) (L, n, tn, P, K) (if (32 ≤ (sxi g (i + 1)) ∧ (sxi g (i + 1)) ≤ 126) ∧ ty < 60 then ev_up S ty (sxi g (i + 1)) else S) (if (32 ≤ (sxi g (i + 1)) ∧ (sxi g (i + 1)) ≤ 126) ∧ ty < 60 then ty + 1 else ty) z y F1 ++ tl)) rfl ?_
      refine ev_room (kc' := k + (15 - e)) (ks' := 6 * k + (4194304 - 128 * 2 ^ e)) (by omega) (by omega) ?_
      refine ev_iinc dL_law_761 rfl ?_
      refine ev_goto (tgt := 23) dL_law_764 rfl ?_
      exact ih (i + 4) (mo_c cd_A (lb_type ty (sxi g (i + 1)))) (L, n, tn, P, K) (if (32 ≤ (sxi g (i + 1)) ∧ (sxi g (i + 1)) ≤ 126) ∧ ty < 60 then ev_up S ty (sxi g (i + 1)) else S) (if (32 ≤ (sxi g (i + 1)) ∧ (sxi g (i + 1)) ≤ 126) ∧ ty < 60 then ty + 1 else ty) rs z y F1 e kn _ _ _ (by omega) (by omega) (by omega) ⟨qN (MC (mo_c cd_A (lb_type ty (sxi g (i + 1)))) (L, n, tn, P, K) (if (32 ≤ (sxi g (i + 1)) ∧ (sxi g (i + 1)) ≤ 126) ∧ ty < 60 then ev_up S ty (sxi g (i + 1)) else S) (if (32 ≤ (sxi g (i + 1)) ∧ (sxi g (i + 1)) ≤ 126) ∧ ty < 60 then ty + 1 else ty) z y F1) rfl, ty_t t0 t1, ty_S t0 hS⟩
    · exact absurd rfl w2
theorem law_run (hs : ev_SC g) (ih : law_I g d u k) (i0 : 0 ≤ i) (i1 : i + 4 ≤ (ev_sL g : Int)) (hk : (ev_sL g : Int) < i + 4 * (k + 1 : Nat) + 4) (t0 : 0 ≤ ty) (t1 : ty ≤ 60) (hS : ∀ i, 0 ≤ i → i < 60 → 0 ≤ S i ∧ S i ≤ 126) (hLO : LO (L, n, tn, P, K) ty rs S (MC th (L, n, tn, P, K) S ty z y F) e kn h) :
    ev_E g false mL_law (d + 40) 748 [some (.float u), some (.ref 0), some (.ref 16), some (.ref 31), some (ev_i i), o5, o6] [] h (k + 1 + (15 - e)) (6 * (k + 1) + (4194304 - 128 * 2 ^ e)) (fun o _ => o = .inl (some (ev_i 1))) := by
  have ok : sp_ok L n P K := LO_ok hLO
  have e15 := LO_e hLO
  have ee := ly_e_15 (kn := kn) (s := (L, n, tn, P, K)) ok e15
  have pe : 2 ^ e ≤ 2 ^ ly_e kn e (L, n, tn, P, K) := Nat.pow_le_pow_right (by decide) ee.1
  have pe' : 2 ^ ly_e kn e (L, n, tn, P, K) ≤ 32768 := Nat.pow_le_pow_right (n := 2) (by decide) ee.2
  have hsL := hs.1
  refine ev_aload_n dL_law_748 rfl ?_
  refine ev_callV dL_law_749 cv_L_114 rfl (LO_0 hLO) (Nat.le_of_ble_eq_true rfl) (ct_Xrun (d := d + 33) (s := (L, n, tn, P, K)) hS t0 t1 hLO) (by omega) (by omega) rfl (fun v h1 q => ?_)
  obtain ⟨qv, qL⟩ := q
  cases Sum.inl.inj qv
  obtain ⟨c, tl, rfl, qN⟩ := LO_mc qL rfl
  refine ev_hp (h' := MH c th L n tn P K S ty z y (ev_la 1 F :: tl)) rfl ?_
  refine ev_aload_n dL_law_752 rfl ?_
  refine ev_hp (h' := MS c th (L, n, tn, P, K) S ty z y (ev_la 1 F :: tl)) rfl ?_
  refine ev_cV dL_law_753 cv_L_117 (ct_Mrun (d := d + 36) (s := (L, n, tn, P, K)) hS t0 t1 kn ok) rfl rfl rfl (Nat.le_of_ble_eq_true rfl) (Nat.zero_le _) (Nat.zero_le _) ?_
  refine ev_icmp_same (tgt := 761) dL_law_756 rfl ?_
  refine ev_hp (h' := rp c (MC 0 (tx_run S ty 61 (L, n, tn, P, K) kn 0 0).2.1 S 0 z y F ++ tl)) rfl ?_
  refine ev_room (kc' := k + (15 - e)) (ks' := 6 * k + (4194304 - 128 * 2 ^ e)) (by omega) (by omega) ?_
  refine ev_iinc dL_law_761 rfl ?_
  refine ev_goto (tgt := 23) dL_law_764 rfl ?_
  exact ih (i + 4) 0 (tx_run S ty 61 (L, n, tn, P, K) kn 0 0).2.1 S 0 rs z y F e (tx_run S ty 61 (L, n, tn, P, K) kn 0 0).2.2 _ _ _ (by omega) (by omega) (by omega) ⟨qN (MC 0 (tx_run S ty 61 (L, n, tn, P, K) kn 0 0).2.1 S 0 z y F) rfl, ⟨Int.le_refl _, by decide⟩, hS⟩
end LAW

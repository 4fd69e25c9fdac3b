/-! The reference: crease -/
theorem sp_cb_min {P : Int → Int} {p i : Int} (hi : 0 ≤ i) : ∀ m : Nat, (∀ k : Int, 0 ≤ k → k < m → (P k < p ↔ k < i)) → sp_cb P p m = if (m : Int) < i then (m : Int) else i
  | 0, _ => by
    show (0 : Int) = _
    split <;> omega
  | m + 1, h => by
    have ih := sp_cb_min hi m (fun k h0 hk => h k h0 (by omega))
    have hm := h m (by omega) (by omega)
    unfold sp_cb
    rw [ih]
    by_cases hi : (m : Int) < i
    · rw [if_pos (hm.mpr hi), if_pos hi]
      split <;> omega
    · rw [if_neg (fun q => hi (hm.mp q)), if_neg hi, if_neg (by omega)]; omega
theorem sp_cb_bef {L n : Int} {P K : Int → Int} (ok : sp_ok L n P K) {p : Int} : sp_cb P p n.toNat = sp_bef n P p := by
  have hn := ok.2.2.1
  obtain ⟨b0, b1, b2, b3⟩ := sp_bef_spec (n := n) (P := P) (p := p) hn
  rw [sp_cb_min b0 n.toNat]
  · rw [Int.toNat_of_nonneg hn]; split <;> omega
  · intro k k0 hk
    rw [Int.toNat_of_nonneg hn] at hk
    constructor
    · intro hP
      refine Int.not_le.mp (fun q => ?_)
      have h1 := b3 (by omega)
      have h2 := sp_mono ok b0 q hk
      omega
    · exact b2 k k0
section R7
variable {g : ev_G} {d : Nat} {c : Nat → ev_AC} {h : List ev_AC} {th L n : Int} {tn : Bool} {P K S : Int → Int} {ty : Int} {z : MZ} {y : MY} {t : List ev_AC}
/-- the reference's heap, of a strip -/
def MS (c : Nat → ev_AC) (th : Int) (s : SG) (S : Int → Int) (ty : Int) (z : MZ) (y : MY) (t : List ev_AC) : List ev_AC := MH c th s.1 s.2.1 s.2.2.1 s.2.2.2.1 s.2.2.2.2 S ty z y t
theorem ct_MstripS {s : SG} {l : Int} (l1 : -2147483648 ≤ l) (l2 : l < 2147483648) : ev_C g mM_strip (d + 1) [.ref 16, ev_i l] (MS c th s S ty z y t) 0 0
    (ev_V none (MS c (lb_strip s l).1 (lb_strip s l).2 S ty z y t)) := by
  have := ct_Mstrip (g := g) (d := d) (c := c) (th := th) (L := s.1) (n := s.2.1) (tn := s.2.2.1) (P := s.2.2.2.1) (K := s.2.2.2.2) (S := S) (ty := ty) (z := z) (y := y) (t := t) l1 l2
  unfold lb_strip
  by_cases hl : 1 ≤ l ∧ l ≤ 60
  · rw [if_pos hl] at this ⊢
    exact this
  · rw [if_neg hl] at this ⊢
    exact this
/-- what the reference's crease answers -/
def lb_crV (s : SG) (p m : Int) : Int := if (lb_crease s p m).1 = 0 then (lb_crease s p m).2.2.1 else 0
theorem ct_Mcrease {p m : Int} (p1 : -2147483648 ≤ p) (p2 : p < 2147483648) (m1 : -2147483648 ≤ m) (m2 : m < 2147483648) (ok : sp_ok L n P K) :
    ev_C g mM_crease (d + 1) [.ref 16, ev_i p, ev_i m] (MH c th L n tn P K S ty z y t) 0 0
      (ev_V (some (ev_i (lb_crV (L, n, tn, P, K) p m))) (MS c (lb_crease (L, n, tn, P, K) p m).1 (lb_crease (L, n, tn, P, K) p m).2 S ty z y t)) := by
  have hn0 := ok.2.2.1
  have hn := ok.2.2.2.1
  have hL0 := ok.1
  have hL := ok.2.1
  obtain ⟨a0, a1, -, -⟩ := sp_bef_spec (n := n) (P := P) (p := p) hn0
  have jc : (lb_crease (L, n, tn, P, K) p m).1 = sp_jd L n P p m := rfl
  have jn : sp_jd L n P p m ≠ 0 → lb_crV (L, n, tn, P, K) p m = 0 ∧ (lb_crease (L, n, tn, P, K) p m).2 = (L, n, tn, P, K) := fun q => ⟨if_neg q, if_neg q⟩
  have jy : sp_jd L n P p m = 0 → lb_crV (L, n, tn, P, K) p m = sp_n1 n P p m ∧ (lb_crease (L, n, tn, P, K) p m).2 = (L, sp_n1 n P p m, tn, sp_P1 n P p m, sp_K1 n P K p m) := fun q => by
    have e : (lb_crease (L, n, tn, P, K) p m).2 = (L, sp_n1 n P p m, tn, sp_P1 n P p m, sp_K1 n P K p m) := if_pos q
    refine ⟨?_, e⟩
    show (if (lb_crease (L, n, tn, P, K) p m).1 = 0 then (lb_crease (L, n, tn, P, K) p m).2.2.1 else 0) = _
    rw [if_pos (jc.trans q), e]
  refine ev_ofE (by decide +kernel) rfl (Nat.le_of_ble_eq_true rfl) rfl rfl ?_
  have bad : ∀ b : Bool, (b = true ↔ (sp_bef n P p < n ∧ P (sp_bef n P p) = p)) → sp_jd L n P p m = 1 → ev_E g false mM_crease (d + 1) 63 [some (.ref 16), some (ev_i p), some (ev_i m), some (ev_i (sp_bef n P p)), some (ev_i (ev_b b)), none, none] [] (MH c th L n tn P K S ty z y t) 0 0
      (ev_V (some (ev_i (lb_crV (L, n, tn, P, K) p m))) (MS c (lb_crease (L, n, tn, P, K) p m).1 (lb_crease (L, n, tn, P, K) p m).2 S ty z y t)) := by
    intro b hb hj
    have e := jn (by omega)
    rw [e.1, e.2, jc, hj]
    have fin : ∀ q : Int, ev_E g false mM_crease (d + 1) 92 [some (.ref 16), some (ev_i p), some (ev_i m), some (ev_i (sp_bef n P p)), some (ev_i (ev_b b)), some (ev_i 1), none] [ev_i q, ev_i 1, .ref 16] (MH c th L n tn P K S ty z y t) 0 0 (ev_V (some (ev_i 0)) (MS c 1 (L, n, tn, P, K) S ty z y t)) := by
      intro q
      refine ev_cV dM_crease_92 cv_M_59 (ct_Mref1) rfl rfl rfl (Nat.le_of_ble_eq_true rfl) (Nat.le_of_ble_eq_true rfl) (Nat.le_of_ble_eq_true rfl) ?_
      refine ev_if_eq (tgt := 100) dM_crease_95 rfl (by omega) (by omega) (fun h3 => ?_) (fun h3 => ?_)
      · omega
      · refine ev_iconst dM_crease_98 ?_
        refine ev_ireturn dM_crease_99 rfl ?_
        exact ⟨rfl, rfl⟩
    refine ev_iconst dM_crease_63 ?_
    refine ev_goto (tgt := 68) dM_crease_64 rfl ?_
    refine ev_istore dM_crease_68 (Nat.le_of_ble_eq_true rfl) ?_
    refine ev_aload_n dM_crease_70 rfl ?_
    refine ev_iload dM_crease_71 rfl ?_
    refine ev_iload dM_crease_73 rfl ?_
    refine ev_bn (tgt := 91) dM_crease_75 rfl (fun hz => ?_) (fun hz => ?_)
    · refine ev_iconst dM_crease_91 ?_
      exact fin 0
    · refine ev_aload_n dM_crease_78 rfl ?_
      refine ev_get dM_crease_79 fl_M_63 rfl rfl ?_
      refine ev_bipush dM_crease_82 rfl ?_
      refine ev_icmp_ne (tgt := 91) dM_crease_84 rfl (by omega) (by omega) (by omega) (by omega) (fun h4 => ?_) (fun h4 => ?_)
      · refine ev_iconst dM_crease_91 ?_
        exact fin 0
      · refine ev_iconst dM_crease_87 ?_
        refine ev_goto (tgt := 92) dM_crease_88 rfl ?_
        exact fin 1
  have remove : (sp_bef n P p < n ∧ P (sp_bef n P p) = p) → m = 3 → sp_jd L n P p m = 0 → ev_E g false mM_crease (d + 1) 125 [some (.ref 16), some (ev_i p), some (ev_i m), some (ev_i (sp_bef n P p)), some (ev_i 1), some (ev_i 0), none] [] (MH c 0 L n tn P K S ty z y t) 0 0
      (ev_V (some (ev_i (lb_crV (L, n, tn, P, K) p m))) (MS c (lb_crease (L, n, tn, P, K) p m).1 (lb_crease (L, n, tn, P, K) p m).2 S ty z y t)) := by
    intro hs hm hj
    have e := jy hj
    rw [e.1, e.2, jc, hj]
    have e1 : sp_n1 n P p m = n - 1 := if_pos hm
    have e2 : sp_P1 n P p m = sp_dl P (sp_bef n P p) (n - 1) := if_pos hm
    have e3 : sp_K1 n P K p m = sp_dl K (sp_bef n P p) (n - 1) := if_pos hm
    rw [e1, e2, e3]
    have hs1 := hs.1
    have loop : ∀ (k : Nat) (j : Int), j + k = n - 1 → sp_bef n P p ≤ j → ev_E g false mM_crease (d + 1) 138 [some (.ref 16), some (ev_i p), some (ev_i m), some (ev_i (sp_bef n P p)), some (ev_i 1), some (ev_i 0), some (ev_i j)] [] (MH c 0 L (n - 1) tn (sp_dl P (sp_bef n P p) j) (sp_dl K (sp_bef n P p) j) S ty z y t) 0 0
        (ev_V (some (ev_i (n - 1))) (MS c 0 (L, n - 1, tn, sp_dl P (sp_bef n P p) (n - 1), sp_dl K (sp_bef n P p) (n - 1)) S ty z y t)) := by
      intro k
      induction k with
      | zero =>
        intro j hj hij
        have hjn : j = n - 1 := by omega
        subst hjn
        refine ev_iload dM_crease_138 rfl ?_
        refine ev_aload_n dM_crease_140 rfl ?_
        refine ev_get dM_crease_141 fl_M_63 rfl rfl ?_
        refine ev_icmp_ge (tgt := 185) dM_crease_144 rfl (by omega) (by omega) (by omega) (by omega) (fun hb => ?_) (fun hb => ?_)
        · refine ev_goto (tgt := 262) dM_crease_185 rfl ?_
          refine ev_aload_n dM_crease_262 rfl ?_
          refine ev_get dM_crease_263 fl_M_63 rfl rfl ?_
          refine ev_ireturn dM_crease_266 rfl ?_
          exact ⟨rfl, rfl⟩
        · omega
      | succ k ih =>
        intro j hj hij
        refine ev_iload dM_crease_138 rfl ?_
        refine ev_aload_n dM_crease_140 rfl ?_
        refine ev_get dM_crease_141 fl_M_63 rfl rfl ?_
        refine ev_icmp_ge (tgt := 185) dM_crease_144 rfl (by omega) (by omega) (by omega) (by omega) (fun hb => ?_) (fun hb => ?_)
        · omega
        · refine ev_aload_n dM_crease_147 rfl ?_
          refine ev_get dM_crease_148 fl_M_13 rfl rfl ?_
          refine ev_iload dM_crease_151 rfl ?_
          refine ev_aload_n dM_crease_153 rfl ?_
          refine ev_get dM_crease_154 fl_M_13 rfl rfl ?_
          refine ev_iload dM_crease_157 rfl ?_
          refine ev_iconst dM_crease_159 ?_
          refine ev_iadd dM_crease_160 ?_
          refine ev_iald dM_crease_161 rfl (by omega) (by omega) (by decide) ?_
          refine ev_iast dM_crease_162 rfl (by omega) (by omega) (by decide) ?_
          refine ev_aload_n dM_crease_163 rfl ?_
          refine ev_get dM_crease_164 fl_M_17 rfl rfl ?_
          refine ev_iload dM_crease_167 rfl ?_
          refine ev_aload_n dM_crease_169 rfl ?_
          refine ev_get dM_crease_170 fl_M_17 rfl rfl ?_
          refine ev_iload dM_crease_173 rfl ?_
          refine ev_iconst dM_crease_175 ?_
          refine ev_iadd dM_crease_176 ?_
          refine ev_iald dM_crease_177 rfl (by omega) (by omega) (by decide) ?_
          refine ev_iast dM_crease_178 rfl (by omega) (by omega) (by decide) ?_
          refine ev_iinc dM_crease_179 rfl ?_
          refine ev_goto (tgt := 138) dM_crease_182 rfl ?_
          rw [sp_dl_s hij, sp_dl_s hij]
          exact ih (j + 1) (by omega) (by omega)
    have := loop (n - 1 - sp_bef n P p).toNat (sp_bef n P p) (by omega) (by omega)
    rw [sp_dl_0, sp_dl_0] at this
    refine ev_aload_n dM_crease_125 rfl ?_
    refine ev_dup dM_crease_126 rfl ?_
    refine ev_get dM_crease_127 fl_M_63 rfl rfl ?_
    refine ev_iconst dM_crease_130 ?_
    refine ev_isub dM_crease_131 ?_
    refine ev_put dM_crease_132 fp_M_63 (fun q => by cases q) rfl (Nat.le_of_ble_eq_true rfl) rfl rfl ?_
    refine ev_iload_n dM_crease_135 rfl ?_
    refine ev_istore dM_crease_136 (Nat.le_of_ble_eq_true rfl) ?_
    exact this
  have insert_ : ¬ (sp_bef n P p < n ∧ P (sp_bef n P p) = p) → m ≠ 3 → n < 6 → sp_jd L n P p m = 0 → ev_E g false mM_crease (d + 1) 188 [some (.ref 16), some (ev_i p), some (ev_i m), some (ev_i (sp_bef n P p)), some (ev_i 0), some (ev_i 0), none] [] (MH c 0 L n tn P K S ty z y t) 0 0
      (ev_V (some (ev_i (lb_crV (L, n, tn, P, K) p m))) (MS c (lb_crease (L, n, tn, P, K) p m).1 (lb_crease (L, n, tn, P, K) p m).2 S ty z y t)) := by
    intro hs hm hn6 hj
    have e := jy hj
    rw [e.1, e.2, jc, hj]
    have e1 : sp_n1 n P p m = n + 1 := by unfold sp_n1; rw [if_neg hm, if_neg hs]
    have e2 : sp_P1 n P p m = sp_ins P n (sp_bef n P p) p := by unfold sp_P1; rw [if_neg hm, if_neg hs]
    have e3 : sp_K1 n P K p m = sp_ins K n (sp_bef n P p) m := by unfold sp_K1; rw [if_neg hm, if_neg hs]
    rw [e1, e2, e3]
    have loop : ∀ (k : Nat) (j : Int), j = sp_bef n P p + k → j ≤ n → ev_E g false mM_crease (d + 1) 194 [some (.ref 16), some (ev_i p), some (ev_i m), some (ev_i (sp_bef n P p)), some (ev_i 0), some (ev_i 0), some (ev_i j)] [] (MH c 0 L n tn (sp_sh P n j) (sp_sh K n j) S ty z y t) 0 0
        (ev_V (some (ev_i (n + 1))) (MS c 0 (L, n + 1, tn, sp_ins P n (sp_bef n P p) p, sp_ins K n (sp_bef n P p) m) S ty z y t)) := by
      intro k
      induction k with
      | zero =>
        intro j hj hjn
        have hji : j = sp_bef n P p := by omega
        subst hji
        refine ev_iload dM_crease_194 rfl ?_
        refine ev_iload_n dM_crease_196 rfl ?_
        refine ev_icmp_le (tgt := 238) dM_crease_197 rfl (by omega) (by omega) (by omega) (by omega) (fun hb => ?_) (fun hb => ?_)
        · refine ev_aload_n dM_crease_238 rfl ?_
          refine ev_get dM_crease_239 fl_M_13 rfl rfl ?_
          refine ev_iload_n dM_crease_242 rfl ?_
          refine ev_iload_n dM_crease_243 rfl ?_
          refine ev_iast dM_crease_244 rfl (by omega) (by omega) (by decide) ?_
          refine ev_aload_n dM_crease_245 rfl ?_
          refine ev_get dM_crease_246 fl_M_17 rfl rfl ?_
          refine ev_iload_n dM_crease_249 rfl ?_
          refine ev_iload_n dM_crease_250 rfl ?_
          refine ev_iast dM_crease_251 rfl (by omega) (by omega) (by decide) ?_
          refine ev_aload_n dM_crease_252 rfl ?_
          refine ev_dup dM_crease_253 rfl ?_
          refine ev_get dM_crease_254 fl_M_63 rfl rfl ?_
          refine ev_iconst dM_crease_257 ?_
          refine ev_iadd dM_crease_258 ?_
          refine ev_put dM_crease_259 fp_M_63 (fun q => by cases q) rfl (Nat.le_of_ble_eq_true rfl) rfl rfl ?_
          refine ev_aload_n dM_crease_262 rfl ?_
          refine ev_get dM_crease_263 fl_M_63 rfl rfl ?_
          refine ev_ireturn dM_crease_266 rfl ?_
          exact ⟨rfl, rfl⟩
        · omega
      | succ k ih =>
        intro j hj hjn
        refine ev_iload dM_crease_194 rfl ?_
        refine ev_iload_n dM_crease_196 rfl ?_
        refine ev_icmp_le (tgt := 238) dM_crease_197 rfl (by omega) (by omega) (by omega) (by omega) (fun hb => ?_) (fun hb => ?_)
        · omega
        · refine ev_aload_n dM_crease_200 rfl ?_
          refine ev_get dM_crease_201 fl_M_13 rfl rfl ?_
          refine ev_iload dM_crease_204 rfl ?_
          refine ev_aload_n dM_crease_206 rfl ?_
          refine ev_get dM_crease_207 fl_M_13 rfl rfl ?_
          refine ev_iload dM_crease_210 rfl ?_
          refine ev_iconst dM_crease_212 ?_
          refine ev_isub dM_crease_213 ?_
          refine ev_iald dM_crease_214 rfl (by omega) (by omega) (by decide) ?_
          refine ev_iast dM_crease_215 rfl (by omega) (by omega) (by decide) ?_
          refine ev_aload_n dM_crease_216 rfl ?_
          refine ev_get dM_crease_217 fl_M_17 rfl rfl ?_
          refine ev_iload dM_crease_220 rfl ?_
          refine ev_aload_n dM_crease_222 rfl ?_
          refine ev_get dM_crease_223 fl_M_17 rfl rfl ?_
          refine ev_iload dM_crease_226 rfl ?_
          refine ev_iconst dM_crease_228 ?_
          refine ev_isub dM_crease_229 ?_
          refine ev_iald dM_crease_230 rfl (by omega) (by omega) (by decide) ?_
          refine ev_iast dM_crease_231 rfl (by omega) (by omega) (by decide) ?_
          refine ev_iinc dM_crease_232 rfl ?_
          refine ev_goto (tgt := 194) dM_crease_235 rfl ?_
          rw [sp_sh_s hjn, sp_sh_s hjn]
          exact ih (j - 1) (by omega) (by omega)
    have := loop (n - sp_bef n P p).toNat n (by omega) (by omega)
    rw [sp_sh_n, sp_sh_n] at this
    refine ev_aload_n dM_crease_188 rfl ?_
    refine ev_get dM_crease_189 fl_M_63 rfl rfl ?_
    refine ev_istore dM_crease_192 (Nat.le_of_ble_eq_true rfl) ?_
    exact this
  have mark : (sp_bef n P p < n ∧ P (sp_bef n P p) = p) → m ≠ 3 → sp_jd L n P p m = 0 → ev_E g false mM_crease (d + 1) 110 [some (.ref 16), some (ev_i p), some (ev_i m), some (ev_i (sp_bef n P p)), some (ev_i 1), some (ev_i 0), none] [] (MH c 0 L n tn P K S ty z y t) 0 0
      (ev_V (some (ev_i (lb_crV (L, n, tn, P, K) p m))) (MS c (lb_crease (L, n, tn, P, K) p m).1 (lb_crease (L, n, tn, P, K) p m).2 S ty z y t)) := by
    intro hs hm hj
    have e := jy hj
    rw [e.1, e.2, jc, hj]
    have e1 : sp_n1 n P p m = n := by unfold sp_n1; rw [if_neg hm, if_pos hs]
    have e2 : sp_P1 n P p m = P := by unfold sp_P1; rw [if_neg hm, if_pos hs]
    have e3 : sp_K1 n P K p m = ev_up K (sp_bef n P p) m := by unfold sp_K1; rw [if_neg hm, if_pos hs]
    rw [e1, e2, e3]
    have hs1 := hs.1
    refine ev_aload_n dM_crease_110 rfl ?_
    refine ev_get dM_crease_111 fl_M_17 rfl rfl ?_
    refine ev_iload_n dM_crease_114 rfl ?_
    refine ev_iload_n dM_crease_115 rfl ?_
    refine ev_iast dM_crease_116 rfl (by omega) (by omega) (by decide) ?_
    refine ev_goto (tgt := 262) dM_crease_117 rfl ?_
    refine ev_aload_n dM_crease_262 rfl ?_
    refine ev_get dM_crease_263 fl_M_63 rfl rfl ?_
    refine ev_ireturn dM_crease_266 rfl ?_
    exact ⟨rfl, rfl⟩
  have h31 : ∀ b : Bool, (b = true ↔ (sp_bef n P p < n ∧ P (sp_bef n P p) = p)) → ev_E g false mM_crease (d + 1) 31 [some (.ref 16), some (ev_i p), some (ev_i m), some (ev_i (sp_bef n P p)), some (ev_i (ev_b b)), none, none] [] (MH c th L n tn P K S ty z y t) 0 0
      (ev_V (some (ev_i (lb_crV (L, n, tn, P, K) p m))) (MS c (lb_crease (L, n, tn, P, K) p m).1 (lb_crease (L, n, tn, P, K) p m).2 S ty z y t)) := by
    intro b hb
    have good : (1 ≤ p ∧ p < L ∧ 0 ≤ m ∧ m ≤ 3) → (m = 3 → b = true) → ev_E g false mM_crease (d + 1) 67 [some (.ref 16), some (ev_i p), some (ev_i m), some (ev_i (sp_bef n P p)), some (ev_i (ev_b b)), none, none] [] (MH c th L n tn P K S ty z y t) 0 0
        (ev_V (some (ev_i (lb_crV (L, n, tn, P, K) p m))) (MS c (lb_crease (L, n, tn, P, K) p m).1 (lb_crease (L, n, tn, P, K) p m).2 S ty z y t)) := by
      intro hg h3
      cases b with
      | true =>
        have hs := hb.mp rfl
        have hj : sp_jd L n P p m = 0 := by unfold sp_jd; rw [if_neg (by omega), if_pos hs]
        refine ev_iconst dM_crease_67 ?_
        refine ev_istore dM_crease_68 (Nat.le_of_ble_eq_true rfl) ?_
        refine ev_aload_n dM_crease_70 rfl ?_
        refine ev_iload dM_crease_71 rfl ?_
        refine ev_iload dM_crease_73 rfl ?_
        refine ev_bn (tgt := 91) dM_crease_75 rfl (fun hz => ?_) (fun hz => ?_)
        · refine ev_iconst dM_crease_91 ?_
          refine ev_cV dM_crease_92 cv_M_59 (ct_Mref0) rfl rfl rfl (Nat.le_of_ble_eq_true rfl) (Nat.le_of_ble_eq_true rfl) (Nat.le_of_ble_eq_true rfl) ?_
          refine ev_if_eq (tgt := 100) dM_crease_95 rfl (by omega) (by omega) (fun h4 => ?_) (fun h4 => ?_)
          · refine ev_iload dM_crease_100 rfl ?_
            refine ev_bz (tgt := 120) dM_crease_102 rfl (fun hz2 => ?_) (fun hz2 => ?_)
            · cases hz2
            · refine ev_iload_n dM_crease_105 rfl ?_
              refine ev_iconst dM_crease_106 ?_
              refine ev_icmp_ge (tgt := 120) dM_crease_107 rfl (by omega) (by omega) (by omega) (by omega) (fun h5 => ?_) (fun h5 => ?_)
              · refine ev_iload dM_crease_120 rfl ?_
                refine ev_bz (tgt := 188) dM_crease_122 rfl (fun hz3 => ?_) (fun hz3 => ?_)
                · cases hz3
                · exact remove hs (by omega) hj
              · exact mark hs (by omega) hj
          · omega
        · cases hz
      | false =>
        have hs : ¬ (sp_bef n P p < n ∧ P (sp_bef n P p) = p) := fun q => by cases hb.mpr q
        have hm : m ≠ 3 := fun q => by cases h3 q
        refine ev_iconst dM_crease_67 ?_
        refine ev_istore dM_crease_68 (Nat.le_of_ble_eq_true rfl) ?_
        refine ev_aload_n dM_crease_70 rfl ?_
        refine ev_iload dM_crease_71 rfl ?_
        refine ev_iload dM_crease_73 rfl ?_
        refine ev_bn (tgt := 91) dM_crease_75 rfl (fun hz => ?_) (fun hz => ?_)
        · cases hz
        · refine ev_aload_n dM_crease_78 rfl ?_
          refine ev_get dM_crease_79 fl_M_63 rfl rfl ?_
          refine ev_bipush dM_crease_82 rfl ?_
          refine ev_icmp_ne (tgt := 91) dM_crease_84 rfl (by omega) (by omega) (by omega) (by omega) (fun h6 => ?_) (fun h6 => ?_)
          · have hj : sp_jd L n P p m = 0 := by unfold sp_jd; rw [if_neg (by omega), if_neg hs, if_neg hm, if_pos (by omega)]
            refine ev_iconst dM_crease_91 ?_
            refine ev_cV dM_crease_92 cv_M_59 (ct_Mref0) rfl rfl rfl (Nat.le_of_ble_eq_true rfl) (Nat.le_of_ble_eq_true rfl) (Nat.le_of_ble_eq_true rfl) ?_
            refine ev_if_eq (tgt := 100) dM_crease_95 rfl (by omega) (by omega) (fun h4 => ?_) (fun h4 => ?_)
            · refine ev_iload dM_crease_100 rfl ?_
              refine ev_bz (tgt := 120) dM_crease_102 rfl (fun hz2 => ?_) (fun hz2 => ?_)
              · refine ev_iload dM_crease_120 rfl ?_
                refine ev_bz (tgt := 188) dM_crease_122 rfl (fun hz3 => ?_) (fun hz3 => ?_)
                · exact insert_ hs hm (by omega) hj
                · cases hz3
              · cases hz2
            · omega
          · have hj : sp_jd L n P p m = 2 := by unfold sp_jd; rw [if_neg (by omega), if_neg hs, if_neg hm, if_neg (by omega)]
            have e := jn (by omega)
            rw [e.1, e.2, jc, hj]
            refine ev_iconst dM_crease_87 ?_
            refine ev_goto (tgt := 92) dM_crease_88 rfl ?_
            refine ev_cV dM_crease_92 cv_M_59 (ct_Mref2) rfl rfl rfl (Nat.le_of_ble_eq_true rfl) (Nat.le_of_ble_eq_true rfl) (Nat.le_of_ble_eq_true rfl) ?_
            refine ev_if_eq (tgt := 100) dM_crease_95 rfl (by omega) (by omega) (fun h4 => ?_) (fun h4 => ?_)
            · omega
            · refine ev_iconst dM_crease_98 ?_
              refine ev_ireturn dM_crease_99 rfl ?_
              exact ⟨rfl, rfl⟩
    refine ev_iload_n dM_crease_31 rfl ?_
    refine ev_iconst dM_crease_32 ?_
    refine ev_icmp_lt (tgt := 63) dM_crease_33 rfl (by omega) (by omega) (by omega) (by omega) (fun g1 => ?_) (fun g1 => ?_)
    · exact bad b hb (if_pos (by omega))
    · refine ev_iload_n dM_crease_36 rfl ?_
      refine ev_aload_n dM_crease_37 rfl ?_
      refine ev_get dM_crease_38 fl_M_7 rfl rfl ?_
      refine ev_icmp_ge (tgt := 63) dM_crease_41 rfl (by omega) (by omega) (by omega) (by omega) (fun g2 => ?_) (fun g2 => ?_)
      · exact bad b hb (if_pos (by omega))
      · refine ev_iload_n dM_crease_44 rfl ?_
        refine ev_if_lt (tgt := 63) dM_crease_45 rfl (by omega) (by omega) (fun g3 => ?_) (fun g3 => ?_)
        · exact bad b hb (if_pos (by omega))
        · refine ev_iload_n dM_crease_48 rfl ?_
          refine ev_iconst dM_crease_49 ?_
          refine ev_icmp_gt (tgt := 63) dM_crease_50 rfl (by omega) (by omega) (by omega) (by omega) (fun g4 => ?_) (fun g4 => ?_)
          · exact bad b hb (if_pos (by omega))
          · refine ev_iload_n dM_crease_53 rfl ?_
            refine ev_iconst dM_crease_54 ?_
            refine ev_icmp_ne (tgt := 67) dM_crease_55 rfl (by omega) (by omega) (by omega) (by omega) (fun g5 => ?_) (fun g5 => ?_)
            · exact good ⟨g1, g2, g3, g4⟩ (fun q => absurd q g5)
            · refine ev_iload dM_crease_58 rfl ?_
              refine ev_bn (tgt := 67) dM_crease_60 rfl (fun g6 => ?_) (fun g6 => ?_)
              · exact good ⟨g1, g2, g3, g4⟩ (fun _ => g6)
              · refine bad b hb ?_
                have hs : ¬ (sp_bef n P p < n ∧ P (sp_bef n P p) = p) := fun q => by rw [hb.mpr q] at g6; cases g6
                unfold sp_jd
                rw [if_neg (by omega), if_neg hs, if_pos g5]
  refine ev_aload_n dM_crease_0 rfl ?_
  refine ev_iload_n dM_crease_1 rfl ?_
  refine ev_cV dM_crease_2 cv_M_70 (ct_Mbefore p1 p2 hn0 hn (sp_P60 ok)) rfl rfl rfl (Nat.le_of_ble_eq_true rfl) (Nat.le_of_ble_eq_true rfl) (Nat.le_of_ble_eq_true rfl) ?_
  rw [sp_cb_bef ok]
  refine ev_istore_n dM_crease_5 (Nat.le_of_ble_eq_true rfl) ?_
  refine ev_iload_n dM_crease_6 rfl ?_
  refine ev_aload_n dM_crease_7 rfl ?_
  refine ev_get dM_crease_8 fl_M_63 rfl rfl ?_
  refine ev_icmp_ge (tgt := 28) dM_crease_11 rfl (by omega) (by omega) (by omega) (by omega) (fun f1 => ?_) (fun f1 => ?_)
  · refine ev_iconst dM_crease_28 ?_
    refine ev_istore dM_crease_29 (Nat.le_of_ble_eq_true rfl) ?_
    exact h31 false ⟨fun q => (by cases q), fun q => (by omega)⟩
  · have hPb := sp_P60 ok (sp_bef n P p) a0 f1
    refine ev_aload_n dM_crease_14 rfl ?_
    refine ev_get dM_crease_15 fl_M_13 rfl rfl ?_
    refine ev_iload_n dM_crease_18 rfl ?_
    refine ev_iald dM_crease_19 rfl (by omega) (by omega) (by decide) ?_
    refine ev_iload_n dM_crease_20 rfl ?_
    refine ev_icmp_ne (tgt := 28) dM_crease_21 rfl (by omega) (by omega) (by omega) (by omega) (fun f2 => ?_) (fun f2 => ?_)
    · refine ev_iconst dM_crease_28 ?_
      refine ev_istore dM_crease_29 (Nat.le_of_ble_eq_true rfl) ?_
      exact h31 false ⟨fun q => (by cases q), fun q => absurd q.2 f2⟩
    · refine ev_iconst dM_crease_24 ?_
      refine ev_goto (tgt := 29) dM_crease_25 rfl ?_
      refine ev_istore dM_crease_29 (Nat.le_of_ble_eq_true rfl) ?_
      exact h31 true ⟨fun _ => ⟨f1, f2⟩, fun _ => rfl⟩
end R7

/-! The laboratory: all orders -/
theorem ly_ov_cg {n : Int} {lo hi lo' hi' : Int → Int} (hl : ∀ i, 0 ≤ i → i ≤ n → lo i = lo' i ∧ hi i = hi' i) {a b : Int} (a0 : 0 ≤ a) (an : a ≤ n) (b0 : 0 ≤ b) (bn : b ≤ n) : ly_ov lo hi a b = ly_ov lo' hi' a b := by
  unfold ly_ov
  rw [(hl a a0 an).1, (hl a a0 an).2, (hl b b0 bn).1, (hl b b0 bn).2]
theorem ly_rdN_cg {n : Int} {lo hi lo' hi' : Int → Int} (hl : ∀ i, 0 ≤ i → i ≤ n → lo i = lo' i ∧ hi i = hi' i) {o : Nat} {a b : Int} (a0 : 0 ≤ a) (an : a ≤ n) (b0 : 0 ≤ b) (bn : b ≤ n) : ∀ (k : Nat) (c : Int), 0 ≤ c → c + k ≤ n → ly_rdN lo hi o a b k c = ly_rdN lo' hi' o a b k c
  | 0, _, _, _ => rfl
  | k + 1, c, c0, cn => by
    unfold ly_rdN ly_r1
    rw [ly_ov_cg hl c0 (by omega) a0 an, ly_ov_cg hl c0 (by omega) b0 bn, ly_rdN_cg hl a0 an b0 bn k (c + 1) (by omega) (by omega)]
theorem ly_ok_cg {n : Int} {K : Int → Int} {tn : Bool} {B B' lo hi lo' hi' : Int → Int} (hB : ∀ i, 0 ≤ i → i ≤ n + 1 → B i = B' i) (hl : ∀ i, 0 ≤ i → i ≤ n → lo i = lo' i ∧ hi i = hi' i) {o : Nat} {a b : Int} (a0 : 0 ≤ a) (ab : a < b) (bn : b ≤ n) : ly_ok K tn B lo hi o a b = ly_ok K tn B' lo' hi' o a b := by
  unfold ly_ok ly_rd ly_cr ly_ne ly_in
  rw [ly_rdN_cg hl a0 (by omega) (by omega) bn _ 0 (by omega) (by omega), hB a a0 (by omega), hB b (by omega) (by omega), (hl a a0 (by omega)).1, (hl a a0 (by omega)).2, (hl b (by omega) bn).1, (hl b (by omega) bn).2]
theorem ly_go_cg {n : Int} {K : Int → Int} {tn : Bool} {B B' lo hi lo' hi' : Int → Int} (hB : ∀ i, 0 ≤ i → i ≤ n + 1 → B i = B' i) (hl : ∀ i, 0 ≤ i → i ≤ n → lo i = lo' i ∧ hi i = hi' i) : ∀ (k : Nat) (a b : Int) (o : Nat), ly_k n k a b → ly_go K tn B lo hi k a b o = ly_go K tn B' lo' hi' k a b o
  | 0, _, _, _, _ => rfl
  | k + 1, a, b, o, h => by
    have bn := ly_k_s h
    have hn := ly_k_n h
    unfold ly_go
    rw [ly_ov_cg hl h.2.1 (by have := h.2.2.1; omega) (by have := h.2.1; have := h.2.2.1; omega) bn, ly_ok_cg hB hl h.2.1 h.2.2.1 bn, ly_ok_cg hB hl h.2.1 h.2.2.1 bn, ly_go_cg hB hl k _ _ o hn, ly_go_cg hB hl k _ _ (o ||| 2 ^ ly_ix a b) hn]
theorem ly_k_st {n : Int} (hn0 : 0 ≤ n) (hn : n ≤ 6) : ly_k n ((n + 1) * n / 2).toNat 0 1 := by
  have h7 : n = 0 ∨ n = 1 ∨ n = 2 ∨ n = 3 ∨ n = 4 ∨ n = 5 ∨ n = 6 := by omega
  refine ⟨?_, by omega, by omega, by omega, fun _ => rfl⟩
  rcases h7 with rfl | rfl | rfl | rfl | rfl | rfl | rfl <;> decide
/-- all orders of the layers, as rows of bits -/
def ly_all (s : SG) : List Nat := ly_go s.2.2.2.2 s.2.2.1 (sp_B s.1 s.2.1 s.2.2.2.1) (sp_lo s.1 s.2.1 s.2.2.2.1) (sp_hi s.1 s.2.1 s.2.2.2.1) ((s.2.1 + 1) * s.2.1 / 2).toNat 0 1 0
theorem ly_all_gv {s : SG} {B lo hi : Int → Int} (ok : sg_ok s) (h : gv s B lo hi) : ly_go s.2.2.2.2 s.2.2.1 B lo hi ((s.2.1 + 1) * s.2.1 / 2).toNat 0 1 0 = ly_all s :=
  ly_go_cg (n := s.2.1) h.1 h.2 _ 0 1 0 (ly_k_st ok.2.2.1 ok.2.2.2.1)
def ly_e (kn : Bool) (e : Nat) (s : SG) : Nat := if kn then e else ly_ge e 0 (ly_all s).length
/-- the class's heap: the kept rows with it; mc are the cells from 16 on that stay -/
def LO (s : SG) (ty : Int) (rs : RS) (S : Int → Int) (mc : List ev_AC) (e : Nat) (kn : Bool) (h : List ev_AC) : Prop :=
  ∃ (fo : Int) (kr : Nat) (R : Int → Int) (A : List Nat) (mk : Int64) (x : ev_AC) (tl : List ev_AC), LR s ty rs kn fo (kr + 14) mk (x :: ev_ia 60 S :: (mc ++ tl)) h ∧ ly_rw A e kr R (x :: ev_ia 60 S :: (mc ++ tl)) ∧ (kr = 0 ∨ mc.length + 2 ≤ kr) ∧ (kn = true → fo = (A.length : Nat) ∧ A = ly_all s ∧ mk = ly_ms s.2.1 0 A)
theorem ly_fr_sh {k k' : Nat} {x y : ev_AC} {mc tl t' : List ev_AC} (h : ly_fr k (x :: y :: (mc ++ tl)) k' t') (hk : k = 0 ∨ mc.length + 2 ≤ k) : (∃ x' tl', t' = x' :: y :: (mc ++ tl')) ∧ (k' = 0 ∨ mc.length + 2 ≤ k') := by
  obtain ⟨h1, h2, h3⟩ := h
  simp only [List.length_cons, List.length_append] at h1 h2 h3
  refine ⟨?_, by omega⟩
  match t', h2, h3 with
  | [], h2, _ => simp at h2
  | [_], h2, _ => simp at h2
  | x' :: y' :: u, h2, h3 =>
    have e1 : y' = y := by
      have := h3 1 (by omega) (by omega)
      simpa using this
    have e2 : u.take mc.length = mc := by
      refine List.ext_getElem? fun i => ?_
      rw [List.getElem?_take]
      by_cases hi : i < mc.length
      · rw [if_pos hi]
        have := h3 (i + 2) (by omega) (by omega)
        simp only [List.getElem?_cons_succ] at this
        rw [this, List.getElem?_append_left hi]
      · rw [if_neg hi, List.getElem?_eq_none (by omega)]
    refine ⟨x', u.drop mc.length, ?_⟩
    rw [e1]
    conv => lhs; rw [← List.take_append_drop mc.length u, e2]
/-- a contract's end, weaker -/
theorem ev_Cq {g : ev_G} {M : ev_M} {d : Nat} {as : List Value} {h : List ev_AC} {kc ks : Nat} {Q Q' : ev_O → List ev_AC → Prop} (c : ev_C g M d as h kc ks Q) (hq : ∀ o h', Q o h' → Q' o h') : ev_C g M d as h kc ks Q' := by
  intro p e a1 a2 a3 s m args below a4 a5 a6 a7
  obtain ⟨n, o, b1, b2, b3, ⟨out, h', b4, b5, b6⟩, b7⟩ := c p e a1 a2 a3 s m args below a4 a5 a6 a7
  exact ⟨n, o, b1, b2, b3, ⟨out, h', b4, hq _ _ b5, b6⟩, b7⟩
section LB3
variable {g : ev_G} {d : Nat} {s : SG} {ty : Int} {rs : RS} {kn : Bool} {S : Int → Int} {mc : List ev_AC} {e : Nat} {h : List ev_AC}
/-- findAll in the laboratory's heap -/
theorem ct_find (hh : LO s ty rs S mc e kn h) : ev_C g mO_findAll (d + 26) [.ref 13] h (ly_e kn e s - e) (128 * 2 ^ ly_e kn e s - 128 * 2 ^ e)
    (fun o h' => o = .inl none ∧ LO s ty rs S mc (ly_e kn e s) true h') := by
  obtain ⟨fo, kr, R, A, mk, x, tl, hL, hr, hk, hA⟩ := hh
  obtain ⟨ok, B, lo, hi, rfl, gvv⟩ := hL
  cases kn with
  | true =>
    rw [show ly_e true e s = e from rfl, Nat.sub_self, Nat.sub_self]
    refine ev_Cq (ct_findKnown (d := d + 26)) (fun o h' q => ?_)
    obtain ⟨q1, q2⟩ := q
    exact ⟨q1, fo, kr, R, A, mk, x, tl, ⟨ok, B, lo, hi, q2, gvv⟩, hr, hk, hA⟩
  | false =>
    have c := ct_findAll (g := g) (d := d) (L := s.1) (n := s.2.1) (tn := s.2.2.1) (P := s.2.2.2.1) (K := s.2.2.2.2) (c0 := lc ty) (q1 := rq rs) (q2 := ev_ia 7 rs.2.2.1) (q3 := ev_ia 6 rs.2.2.2.1) (q4 := ev_ia 6 rs.2.2.2.2.1) (q5 := ev_ia 6 rs.2.2.2.2.2.1) (q6 := ev_ia 6 rs.2.2.2.2.2.2) (mk := mk) (fo := fo) ok.2.2.1 ok.2.2.2.1 (fun i a b => (ok.2.2.2.2.1 i a b).2.2) (gv_lo ok gvv) (gv_hi ok gvv) (gv_B ok gvv) hr
    rw [ly_all_gv ok gvv] at c
    refine ev_Cq c (fun o h' q => ?_)
    obtain ⟨q1, k', R', t', q2, q3, q4⟩ := q
    obtain ⟨⟨x', tl', rfl⟩, hk'⟩ := ly_fr_sh q4 hk
    exact ⟨q1, _, k', R', ly_all s, _, x', tl', ⟨ok, B, lo, hi, q2, gvv⟩, q3, hk', fun _ => ⟨rfl, rfl, rfl⟩⟩
theorem ct_Forders (hh : LO s ty rs S mc e kn h) : ev_C g mF_orders (d + 27) [.ref 0] h (ly_e kn e s - e) (128 * 2 ^ ly_e kn e s - 128 * 2 ^ e)
    (fun o h' => o = .inl (some (ev_i ((ly_all s).length : Nat))) ∧ LO s ty rs S mc (ly_e kn e s) true h') := by
  have hh0 := hh
  obtain ⟨fo, kr, R, A, mk, x, tl, hL, hr, hk, hA⟩ := hh
  obtain ⟨ok, B, lo, hi, rfl, gvv⟩ := hL
  refine ev_ofE (by decide +kernel) rfl (Nat.le_of_ble_eq_true rfl) rfl rfl ?_
  refine ev_aload_n dF_orders_0 rfl ?_
  refine ev_get dF_orders_1 fl_F_28 rfl rfl ?_
  refine ev_callV dF_orders_4 cv_F_144 rfl rfl (Nat.le_of_ble_eq_true rfl) (ct_find (d := d) hh0) (Nat.le_refl _) (Nat.le_refl _) rfl (fun v h' q => ?_)
  obtain ⟨qv, q⟩ := q
  have hv : v = none := Sum.inl.inj qv
  subst hv
  have q0 := q
  obtain ⟨fo, kr, R, A, mk, x, tl, hL, hr, hk, hA⟩ := q
  obtain ⟨ok, B, lo, hi, rfl, gvv⟩ := hL
  obtain ⟨hfo, hAl, hmk⟩ := hA rfl
  subst hfo
  subst hAl
  refine ev_aload_n dF_orders_7 rfl ?_
  refine ev_get dF_orders_8 fl_F_28 rfl rfl ?_
  refine ev_get dF_orders_11 fl_F_147 rfl rfl ?_
  refine ev_ireturn dF_orders_14 rfl ?_
  exact ⟨rfl, q0⟩
end LB3

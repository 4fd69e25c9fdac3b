/-! The class's methods over its whole heap; the reference's cells in it -/
theorem sp_mx_cg {B B' : Int → Int} : ∀ k : Nat, (∀ i : Int, 0 ≤ i → i ≤ k → B i = B' i) → sp_mx B k = sp_mx B' k
  | 0, h => h 0 (Int.le_refl _) (Int.le_refl _)
  | k + 1, h => by
    unfold sp_mx
    rw [sp_mx_cg k (fun i i0 i1 => h i i0 (by push_cast; omega)), h (k + 1) (by omega) (by push_cast; omega)]
theorem sp_mi_cg {B B' : Int → Int} : ∀ k : Nat, (∀ i : Int, 0 ≤ i → i ≤ k → B i = B' i) → sp_mi B k = sp_mi B' k
  | 0, h => h 0 (Int.le_refl _) (Int.le_refl _)
  | k + 1, h => by
    unfold sp_mi
    rw [sp_mi_cg k (fun i i0 i1 => h i i0 (by push_cast; omega)), h (k + 1) (by omega) (by push_cast; omega)]
theorem sp_im_cg {lo hi lo' hi' : Int → Int} {q : Int} : ∀ k : Nat, (∀ i : Int, 0 ≤ i → i < k → lo i = lo' i ∧ hi i = hi' i) → sp_im lo hi q k = sp_im lo' hi' q k
  | 0, _ => rfl
  | k + 1, h => by
    unfold sp_im
    rw [sp_im_cg k (fun i i0 i1 => h i i0 (by push_cast; omega)), (h k (by omega) (by push_cast; omega)).1, (h k (by omega) (by push_cast; omega)).2]
theorem sp_mo_cg {f f' : Int → Int} : ∀ k : Nat, (∀ i : Int, 0 ≤ i → i < k → f i = f' i) → sp_mo f k = sp_mo f' k
  | 0, _ => rfl
  | k + 1, h => by
    unfold sp_mo
    rw [sp_mo_cg k (fun i i0 i1 => h i i0 (by push_cast; omega)), h k (by omega) (by push_cast; omega)]
theorem tx_op_s {s : SG} {S : Int → Int} {c st dg : Int} (h : (tx_op s S c st dg).1 ≠ 0) : (tx_op s S c st dg).2 = s := by
  unfold tx_op at h ⊢
  by_cases h1 : c = 116
  · rw [if_pos h1] at h
    exact absurd rfl h
  · rw [if_neg h1] at h ⊢
    by_cases h2 : dg = 0
    · rw [if_pos h2]
    · rw [if_neg h2] at h ⊢
      by_cases h3 : c = 115
      · rw [if_pos h3] at h ⊢
        unfold lb_strip at h ⊢
        by_cases h4 : 1 ≤ tx_num S st dg.toNat ∧ tx_num S st dg.toNat ≤ 60
        · rw [if_pos h4] at h
          exact absurd rfl h
        · rw [if_neg h4]
      · rw [if_neg h3] at h ⊢
        exact if_neg h
theorem tx_run_kn {S : Int → Int} {en : Int} : ∀ (k : Nat) (s : SG) (kn : Bool) (at_ ops : Int), (tx_run S en k s kn at_ ops).2.2 = true → (tx_run S en k s kn at_ ops).2.1 = s ∧ kn = true
  | 0, s, kn, _, _, h => ⟨rfl, h⟩
  | k + 1, s, kn, at_, ops, h => by
    unfold tx_run at h ⊢
    by_cases h1 : en ≤ at_
    · rw [if_pos h1] at h ⊢
      exact ⟨rfl, h⟩
    · rw [if_neg h1] at h ⊢
      by_cases h2 : S at_ = 32
      · rw [if_pos h2] at h ⊢
        exact tx_run_kn k s kn _ _ h
      · rw [if_neg h2] at h ⊢
        by_cases h3 : (tx_op s S (S at_) (at_ + 1) (tx_dgs S en at_)).1 = 0
        · rw [if_pos h3] at h ⊢
          have := (tx_run_kn k _ false _ _ h).2
          cases this
        · rw [if_neg h3] at h ⊢
          exact ⟨tx_op_s h3, h⟩
section LX
variable {g : ev_G} {d : Nat} {s : SG} {ty : Int} {rs : RS} {kn : Bool} {S : Int → Int} {mc : List ev_AC} {e : Nat} {h : List ev_AC}
theorem LO_ok (hh : LO s ty rs S mc e kn h) : sg_ok s := by
  obtain ⟨fo, kr, R, A, mk, x, tl, hL, hr, hk, hA⟩ := hh
  exact hL.1
theorem LO_e (hh : LO s ty rs S mc e kn h) : e ≤ 15 := by
  obtain ⟨fo, kr, R, A, mk, x, tl, hL, hr, hk, hA⟩ := hh
  exact hr.2.1.2
theorem LO_0 (hh : LO s ty rs S mc e kn h) : h[0]? = some (.inr (0, [.ref 1, .ref 7, .ref 13, .ref 15, ev_i ty])) := by
  obtain ⟨fo, kr, R, A, mk, x, tl, hL, hr, hk, hA⟩ := hh
  obtain ⟨ok, B, lo, hi, rfl, gvv⟩ := hL
  rfl
theorem ct_Xturn (hh : LO s ty rs S mc e kn h) : ev_C g mF_turn (d + 1) [.ref 0] h 0 0 (fun o h' => o = .inl (some (ev_i (ev_b (!s.2.2.1)))) ∧ LO (lb_turn s) ty rs S mc e false h') := by
  obtain ⟨fo, kr, R, A, mk, x, tl, hL, hr, hk, hA⟩ := hh
  exact ev_Cq (ct_turn (d := d) hL) (fun o h' q => ⟨q.1, fo, kr, R, A, mk, x, tl, q.2, hr, hk, fun r => by cases r⟩)
theorem ct_Xcount {w : Int} (w1 : -2147483648 ≤ w) (w2 : w < 2147483648) (hh : LO s ty rs S mc e kn h) : ev_C g mF_count (d + 1) [.ref 0, ev_i w] h 0 0
    (fun o h' => o = .inl (some (ev_i (if w = 0 then s.1 else if w = 1 then s.2.1 else if w = 2 then sp_fr s.2.2.2.2 s.2.1.toNat else if w = 3 then ty else -1))) ∧ LO s ty rs S mc e kn h') := by
  have hh0 := hh
  obtain ⟨fo, kr, R, A, mk, x, tl, hL, hr, hk, hA⟩ := hh
  obtain ⟨ok, B, lo, hi, rfl, gvv⟩ := hL
  exact ev_Cq (ct_Fcount (d := d) w1 w2 ok) (fun o h' q => ⟨q.1, by rw [q.2]; exact hh0⟩)
theorem ct_Xwidth (hh : LO s ty rs S mc e kn h) : ev_C g mF_width (d + 2) [.ref 0] h 0 0
    (fun o h' => o = .inl (some (ev_i (sp_mx (sp_B s.1 s.2.1 s.2.2.2.1) (s.2.1 + 1).toNat - sp_mi (sp_B s.1 s.2.1 s.2.2.2.1) (s.2.1 + 1).toNat))) ∧ LO s ty rs S mc e kn h') := by
  have hh0 := hh
  obtain ⟨fo, kr, R, A, mk, x, tl, hL, hr, hk, hA⟩ := hh
  obtain ⟨ok, B, lo, hi, rfl, gvv⟩ := hL
  have hn0 := ok.2.2.1
  refine ev_Cq (ct_Fwidth (d := d) ok gvv) (fun o h' q => ⟨?_, by rw [q.2]; exact hh0⟩)
  rw [q.1, sp_mx_cg (s.2.1 + 1).toNat (fun i i0 i1 => gvv.1 i i0 (by omega)), sp_mi_cg (s.2.1 + 1).toNat (fun i i0 i1 => gvv.1 i i0 (by omega))]
theorem ct_Xthick (hh : LO s ty rs S mc e kn h) : ev_C g mF_thickness (d + 3) [.ref 0] h 0 0
    (fun o h' => o = .inl (some (ev_i (sp_mo (fun i => sp_im (sp_lo s.1 s.2.1 s.2.2.2.1) (sp_hi s.1 s.2.1 s.2.2.2.1) (sp_lo s.1 s.2.1 s.2.2.2.1 i) (s.2.1 + 1).toNat) (s.2.1 + 1).toNat))) ∧ LO s ty rs S mc e kn h') := by
  have hh0 := hh
  obtain ⟨fo, kr, R, A, mk, x, tl, hL, hr, hk, hA⟩ := hh
  obtain ⟨ok, B, lo, hi, rfl, gvv⟩ := hL
  have hn0 := ok.2.2.1
  refine ev_Cq (ct_Fthick (d := d) ok gvv) (fun o h' q => ⟨?_, by rw [q.2]; exact hh0⟩)
  rw [q.1]
  congr 3
  refine sp_mo_cg (s.2.1 + 1).toNat (fun i i0 i1 => ?_)
  show sp_im lo hi (lo i) (s.2.1 + 1).toNat = _
  rw [(gvv.2 i i0 (by omega)).1]
  exact sp_im_cg (s.2.1 + 1).toNat (fun j j0 j1 => gvv.2 j j0 (by omega))
theorem ct_Xfold (hh : LO s ty rs S mc e kn h) : ev_C g mF_foldable (d + 4) [.ref 0] h 0 0
    (fun o h' => o = .inl (some (ev_i (if 0 < sp_fr s.2.2.2.2 s.2.1.toNat then -1 else if (rd_go s rs).1 = 1 then 1 else 0))) ∧ LO s ty (rd_go s rs) S mc e kn h') := by
  obtain ⟨fo, kr, R, A, mk, x, tl, hL, hr, hk, hA⟩ := hh
  exact ev_Cq (ct_Ffoldable (d := d) hL) (fun o h' q => ⟨q.1, fo, kr, R, A, mk, x, tl, q.2, hr, hk, hA⟩)
theorem ct_Xsteps (hh : LO s ty rs S mc e kn h) : ev_C g mF_steps (d + 4) [.ref 0] h 0 0
    (fun o h' => o = .inl (some (ev_i (lb_steps s rs))) ∧ LO s ty (rd_go s rs) S mc e kn h') := by
  obtain ⟨fo, kr, R, A, mk, x, tl, hL, hr, hk, hA⟩ := hh
  exact ev_Cq (ct_Fsteps (d := d) hL) (fun o h' q => ⟨q.1, fo, kr, R, A, mk, x, tl, q.2, hr, hk, hA⟩)
theorem ct_Xrun (hS : ∀ i, 0 ≤ i → i < 60 → 0 ≤ S i ∧ S i ≤ 126) (t0 : 0 ≤ ty) (t1 : ty ≤ 60) (hh : LO s ty rs S mc e kn h) : ev_C g mF_run (d + 6) [.ref 0] h 0 0
    (fun o h' => o = .inl (some (ev_i (tx_run S ty 61 s kn 0 0).1)) ∧ LO (tx_run S ty 61 s kn 0 0).2.1 0 rs S mc e (tx_run S ty 61 s kn 0 0).2.2 h') := by
  obtain ⟨fo, kr, R, A, mk, x, tl, hL, hr, hk, hA⟩ := hh
  refine ev_Cq (ct_run (d := d) hS t0 t1 hL) (fun o h' q => ⟨q.1, fo, kr, R, A, mk, x, tl, q.2, hr, hk, fun r => ?_⟩)
  obtain ⟨r1, r2⟩ := tx_run_kn 61 s kn 0 0 r
  rw [r1]
  exact hA r2
theorem LO_mc (hh : LO s ty rs S mc e kn h) (hl : mc.length = 16) : ∃ (c : Nat → ev_AC) (tl : List ev_AC), h = rp c (mc ++ tl) ∧ ∀ mc' : List ev_AC, mc'.length = 16 → LO s ty rs S mc' e kn (rp c (mc' ++ tl)) := by
  obtain ⟨fo, kr, R, A, mk, x0, tl, hL, hr, hk, hA⟩ := hh
  obtain ⟨ok, B, lo, hi, rfl, gvv⟩ := hL
  refine ⟨fun i => ((oh s.1 s.2.1 s.2.2.1 s.2.2.2.1 s.2.2.2.2 B lo hi (lc ty) (rq rs) (ev_ia 7 rs.2.2.1) (ev_ia 6 rs.2.2.2.1) (ev_ia 6 rs.2.2.2.2.1) (ev_ia 6 rs.2.2.2.2.2.1) (ev_ia 6 rs.2.2.2.2.2.2) kn fo (kr + 14) mk [x0, ev_ia 60 S])[i]?).getD x0, tl, rfl, fun mc' hl' => ⟨fo, kr, R, A, mk, x0, tl, ⟨ok, B, lo, hi, rfl, gvv⟩, ⟨?_, hr.2⟩, by omega, hA⟩⟩
  rcases hk with hk | hk
  · have h1 := hr.1
    rw [hk] at h1 ⊢
    exact h1
  · have hj : kr = (kr - 18) + 16 + 2 := by omega
    have h1 := hr.1
    rw [hj] at h1 ⊢
    have h2 : (mc ++ tl)[kr - 18 + 16]? = some (ev_ia (64 * 2 ^ e) R) := h1
    rw [List.getElem?_append_right (by omega), hl] at h2
    show (mc' ++ tl)[kr - 18 + 16]? = some (ev_ia (64 * 2 ^ e) R)
    rw [List.getElem?_append_right (by omega), hl']
    exact h2
end LX
/-- the reference's sixteen cells -/
def MC (th : Int) (s : SG) (S : Int → Int) (ty : Int) (z : MZ) (y : MY) (F : Nat → Int64) : List ev_AC :=
  [.inr (4, [ev_i th, ev_i s.1, ev_i (ev_b s.2.2.1), .ref 17, .ref 18, ev_i s.2.1, .ref 19, ev_i ty, .ref 20, .ref 21, .ref 22, .ref 23, .ref 24, .ref 25, ev_i z.2.2.2.2.2.2, .ref 26, .ref 27, .ref 28, ev_i y.2.2.2.1, .ref 29, .ref 30, ev_i y.2.2.2.2.2.2]),
    ev_ia 6 s.2.2.2.1, ev_ia 6 s.2.2.2.2, ev_ia 60 S, ev_ia 49 z.1, ev_ia 21 z.2.1, ev_ia 21 z.2.2.1, ev_ia 7 z.2.2.2.1, ev_ia 7 z.2.2.2.2.1, ev_ia 6 z.2.2.2.2.2.1, ev_ia 7 y.1, ev_ia 7 y.2.1, ev_ia 7 y.2.2.1, ev_ia 7 y.2.2.2.2.1, ev_ia 7 y.2.2.2.2.2.1, ev_la 1 F]
theorem MC_MS {c : Nat → ev_AC} {th : Int} {s : SG} {S : Int → Int} {ty : Int} {z : MZ} {y : MY} {F : Nat → Int64} {tl : List ev_AC} : rp c (MC th s S ty z y F ++ tl) = MS c th s S ty z y (ev_la 1 F :: tl) := rfl
/-- the heap between two calls: class and reference tell of the same strip -/
def LW (th : Int) (s : SG) (S : Int → Int) (ty : Int) (rs : RS) (z : MZ) (y : MY) (F : Nat → Int64) (e : Nat) (kn : Bool) (h : List ev_AC) : Prop :=
  LO s ty rs S (MC th s S ty z y F) e kn h ∧ (0 ≤ ty ∧ ty ≤ 60) ∧ ∀ i, 0 ≤ i → i < 60 → 0 ≤ S i ∧ S i ≤ 126
/-- what a wrapper leaves, in one form -/
theorem lw_one {r : Int ⊕ Nat} {cd : Nat → Int} {th : Int} {s : SG} {S : Int → Int} {ty : Int} {z : MZ} {y : MY} {F : Nat → Int64} {Pr : List ev_AC → List ev_AC → Prop} {o : ev_O} {h' : List ev_AC} (q : lw_out r cd F (MC th s S ty z y F) Pr o h') :
    ∃ F' : Nat → Int64, o = .inl (some (ev_i (mo_c cd r))) ∧ Pr (MC th s S ty z y F') h' ∧ ∀ w, r = .inl w → F' 0 = (Int32.ofInt w).toInt64 := by
  cases r with
  | inl w =>
    obtain ⟨q1, q2⟩ := q
    refine ⟨_, q1, q2, fun w' hw => ?_⟩
    cases hw
    rfl
  | inr ci =>
    obtain ⟨q1, q2⟩ := q
    exact ⟨F, q1, q2, fun w' hw => by cases hw⟩
theorem cd_A_bd (ci : Nat) : 1 ≤ cd_A ci ∧ cd_A ci ≤ 2 := by
  unfold cd_A
  split <;> decide
theorem cd_O_bd (ci : Nat) : 1 ≤ cd_O ci ∧ cd_O ci ≤ 2 := by
  unfold cd_O
  split <;> decide
theorem mo_c_bd {cd : Nat → Int} (h : ∀ ci, 1 ≤ cd ci ∧ cd ci ≤ 2) (r : Int ⊕ Nat) : 0 ≤ mo_c cd r ∧ mo_c cd r ≤ 2 ∧ (mo_c cd r = 0 → ∃ w, r = .inl w ∧ mo_v r = w) := by
  cases r with
  | inl w => exact ⟨by show (0 : Int) ≤ 0; decide, by show (0 : Int) ≤ 2; decide, fun _ => ⟨w, rfl, rfl⟩⟩
  | inr ci =>
    have := h ci
    exact ⟨by show 0 ≤ cd ci; omega, by show cd ci ≤ 2; omega, fun q => by have q' : cd ci = 0 := q; omega⟩

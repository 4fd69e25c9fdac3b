/-! The laboratory: its state, the text -/
/-- L, n, tn, P, K -/
abbrev SG : Type := Int × Int × Bool × (Int → Int) × (Int → Int)
def sg_ok (s : SG) : Prop := sp_ok s.1 s.2.1 s.2.2.2.1 s.2.2.2.2
/-- the laboratory's own cell -/
def lc (ty : Int) : ev_AC := .inr (0, [.ref 1, .ref 7, .ref 13, .ref 15, ev_i ty])
/-- the images are the strip's -/
def gv (s : SG) (B lo hi : Int → Int) : Prop := (∀ i, 0 ≤ i → i ≤ s.2.1 + 1 → B i = sp_B s.1 s.2.1 s.2.2.2.1 i) ∧ ∀ i, 0 ≤ i → i ≤ s.2.1 → lo i = sp_lo s.1 s.2.1 s.2.2.2.1 i ∧ hi i = sp_hi s.1 s.2.1 s.2.2.2.1 i
/-- the class's heap in the state s -/
def LB (s : SG) (ty : Int) (q1 q2 q3 q4 q5 q6 : ev_AC) (kn : Bool) (fo : Int) (r : Nat) (mk : Int64) (t : List ev_AC) (h : List ev_AC) : Prop :=
  sg_ok s ∧ ∃ B lo hi, h = oh s.1 s.2.1 s.2.2.1 s.2.2.2.1 s.2.2.2.2 B lo hi (lc ty) q1 q2 q3 q4 q5 q6 kn fo r mk t ∧ gv s B lo hi
def lb_strip (s : SG) (l : Int) : Int × SG := if 1 ≤ l ∧ l ≤ 60 then (0, (l, 0, false, s.2.2.2.1, s.2.2.2.2)) else (1, s)
def lb_crease (s : SG) (p m : Int) : Int × SG :=
  (sp_jd s.1 s.2.1 s.2.2.2.1 p m, if sp_jd s.1 s.2.1 s.2.2.2.1 p m = 0 then (s.1, sp_n1 s.2.1 s.2.2.2.1 p m, s.2.2.1, sp_P1 s.2.1 s.2.2.2.1 p m, sp_K1 s.2.1 s.2.2.2.1 s.2.2.2.2 p m) else s)
def lb_turn (s : SG) : SG := (s.1, s.2.1, !s.2.2.1, s.2.2.2.1, s.2.2.2.2)
def lb_kn (c : Int) (kn : Bool) : Bool := if c = 0 then false else kn
theorem gv_ov (s : SG) (B lo hi : Int → Int) : gv s (ev_ov (sp_B s.1 s.2.1 s.2.2.2.1) B (s.2.1 + 2)) (ev_ov (sp_lo s.1 s.2.1 s.2.2.2.1) lo (s.2.1 + 1)) (ev_ov (sp_hi s.1 s.2.1 s.2.2.2.1) hi (s.2.1 + 1)) :=
  ⟨fun i h0 h1 => ev_ov_in h0 (by omega), fun i h0 h1 => ⟨ev_ov_in h0 (by omega), ev_ov_in h0 (by omega)⟩⟩
theorem gv_B {s : SG} {B lo hi : Int → Int} (ok : sg_ok s) (h : gv s B lo hi) : ∀ i, 0 ≤ i → i ≤ s.2.1 + 1 → -60 ≤ B i ∧ B i ≤ 60 := fun i h0 h1 => by
  rw [h.1 i h0 h1]; exact sp_B_60 ok h0 h1
theorem gv_lo {s : SG} {B lo hi : Int → Int} (ok : sg_ok s) (h : gv s B lo hi) : ∀ i, 0 ≤ i → i ≤ s.2.1 → -60 ≤ lo i ∧ lo i ≤ 60 := fun i h0 h1 => by
  rw [(h.2 i h0 h1).1]
  have b1 := sp_B_60 ok (i := i) h0 (by omega)
  have b2 := sp_B_60 ok (i := i + 1) (by omega) (by omega)
  unfold sp_lo
  split <;> omega
theorem gv_hi {s : SG} {B lo hi : Int → Int} (ok : sg_ok s) (h : gv s B lo hi) : ∀ i, 0 ≤ i → i ≤ s.2.1 → -60 ≤ hi i ∧ hi i ≤ 60 := fun i h0 h1 => by
  rw [(h.2 i h0 h1).2]
  have b1 := sp_B_60 ok (i := i) h0 (by omega)
  have b2 := sp_B_60 ok (i := i + 1) (by omega) (by omega)
  unfold sp_hi
  split <;> omega
section LA
variable {g : ev_G} {d : Nat} {s : SG} {ty : Int} {q1 q2 q3 q4 q5 q6 : ev_AC} {kn : Bool} {fo : Int} {r : Nat} {mk : Int64} {t : List ev_AC} {h : List ev_AC}
theorem ct_tryStrip {l : Int} (l1 : -2147483648 ≤ l) (l2 : l < 2147483648) (hh : LB s ty q1 q2 q3 q4 q5 q6 kn fo r mk t h) :
    ev_C g mF_tryStrip (d + 4) [.ref 0, ev_i l] h 0 0 (fun o h' => o = .inl (some (ev_i (lb_strip s l).1)) ∧ LB (lb_strip s l).2 ty q1 q2 q3 q4 q5 q6 (lb_kn (lb_strip s l).1 kn) fo r mk t h') := by
  obtain ⟨L, n, tn, P, K⟩ := s
  obtain ⟨ok, B, lo, hi, rfl, gvv⟩ := hh
  refine ev_ofE (by decide +kernel) rfl (Nat.le_of_ble_eq_true rfl) rfl rfl ?_
  refine ev_iload_n dF_tryStrip_0 rfl ?_
  refine ev_iconst dF_tryStrip_1 ?_
  refine ev_icmp_lt (tgt := 11) dF_tryStrip_2 rfl (by omega) (by omega) (by omega) (by omega) (fun hb => ?_) (fun hb => ?_)
  · refine ev_iconst dF_tryStrip_11 ?_
    refine ev_ireturn dF_tryStrip_12 rfl ?_
    have e : lb_strip (L, n, tn, P, K) l = (1, (L, n, tn, P, K)) := if_neg (by omega)
    rw [e]
    exact ⟨rfl, ok, B, lo, hi, rfl, gvv⟩
  · refine ev_iload_n dF_tryStrip_5 rfl ?_
    refine ev_bipush dF_tryStrip_6 rfl ?_
    refine ev_icmp_le (tgt := 13) dF_tryStrip_8 rfl (by omega) (by omega) (by omega) (by omega) (fun hb2 => ?_) (fun hb2 => ?_)
    · have e : lb_strip (L, n, tn, P, K) l = (0, (l, 0, false, P, K)) := if_pos ⟨hb, hb2⟩
      rw [e]
      refine ev_aload_n dF_tryStrip_13 rfl ?_
      refine ev_get dF_tryStrip_14 fl_F_12 rfl rfl ?_
      refine ev_iload_n dF_tryStrip_17 rfl ?_
      refine ev_cVv dF_tryStrip_18 cv_F_205 (ct_renew (L := L) (n := n) (tn := tn) (P := P) (K := K) (B := B) (lo := lo) (hi := hi) hb hb2) rfl rfl rfl (Nat.le_of_ble_eq_true rfl) (Nat.le_of_ble_eq_true rfl) (Nat.le_of_ble_eq_true rfl) ?_
      refine ev_aload_n dF_tryStrip_21 rfl ?_
      refine ev_get dF_tryStrip_22 fl_F_28 rfl rfl ?_
      refine ev_cVv dF_tryStrip_25 cv_F_68 (ct_forget (L := l) (n := 0) (tn := false) (P := P) (K := K) (c0 := lc ty) (q1 := q1) (q2 := q2) (q3 := q3) (q4 := q4) (q5 := q5) (q6 := q6) (kn := kn) (fo := fo) (r := r) (mk := mk) (t := t)) rfl rfl rfl (Nat.le_of_ble_eq_true rfl) (Nat.le_of_ble_eq_true rfl) (Nat.le_of_ble_eq_true rfl) ?_
      refine ev_iconst dF_tryStrip_28 ?_
      refine ev_ireturn dF_tryStrip_29 rfl ?_
      exact ⟨rfl, ⟨hb, hb2, Int.le_refl 0, by show (0 : Int) ≤ 6; decide, fun i a b => by have : i < 0 := b; omega, fun i j a b c => by have : j < 0 := c; omega⟩, _, _, _, rfl, gv_ov (l, 0, false, P, K) B lo hi⟩
    · refine ev_iconst dF_tryStrip_11 ?_
      refine ev_ireturn dF_tryStrip_12 rfl ?_
      have e : lb_strip (L, n, tn, P, K) l = (1, (L, n, tn, P, K)) := if_neg (by omega)
      rw [e]
      exact ⟨rfl, ok, B, lo, hi, rfl, gvv⟩
theorem sp_jd_bd {L n : Int} {P : Int → Int} {p m : Int} : 0 ≤ sp_jd L n P p m ∧ sp_jd L n P p m ≤ 2 := by
  unfold sp_jd
  repeat' split
  all_goals omega
theorem ct_tryCrease {p m : Int} (p1 : -2147483648 ≤ p) (p2 : p < 2147483648) (m1 : -2147483648 ≤ m) (m2 : m < 2147483648) (hh : LB s ty q1 q2 q3 q4 q5 q6 kn fo r mk t h) :
    ev_C g mF_tryCrease (d + 4) [.ref 0, ev_i p, ev_i m] h 0 0 (fun o h' => o = .inl (some (ev_i (lb_crease s p m).1)) ∧ LB (lb_crease s p m).2 ty q1 q2 q3 q4 q5 q6 (lb_kn (lb_crease s p m).1 kn) fo r mk t h') := by
  obtain ⟨L, n, tn, P, K⟩ := s
  obtain ⟨ok, B, lo, hi, rfl, gvv⟩ := hh
  have hj := sp_jd_bd (L := L) (n := n) (P := P) (p := p) (m := m)
  refine ev_ofE (by decide +kernel) rfl (Nat.le_of_ble_eq_true rfl) rfl rfl ?_
  refine ev_aload_n dF_tryCrease_0 rfl ?_
  refine ev_get dF_tryCrease_1 fl_F_12 rfl rfl ?_
  refine ev_iload_n dF_tryCrease_4 rfl ?_
  refine ev_iload_n dF_tryCrease_5 rfl ?_
  refine ev_cV dF_tryCrease_6 cv_F_209 (ct_judge (L := L) (n := n) (tn := tn) (P := P) (K := K) (B := B) (lo := lo) (hi := hi) p1 p2 m1 m2 ok) rfl rfl rfl (Nat.le_of_ble_eq_true rfl) (Nat.le_of_ble_eq_true rfl) (Nat.le_of_ble_eq_true rfl) ?_
  refine ev_istore_n dF_tryCrease_9 (Nat.le_of_ble_eq_true rfl) ?_
  refine ev_iload_n dF_tryCrease_10 rfl ?_
  refine ev_if_ne (tgt := 30) dF_tryCrease_11 rfl (by omega) (by omega) (fun hb => ?_) (fun hb => ?_)
  · refine ev_iload_n dF_tryCrease_30 rfl ?_
    refine ev_ireturn dF_tryCrease_31 rfl ?_
    have e : lb_crease (L, n, tn, P, K) p m = (sp_jd L n P p m, (L, n, tn, P, K)) := by
      show (sp_jd L n P p m, if sp_jd L n P p m = 0 then _ else _) = _
      rw [if_neg hb]
    rw [e]
    exact ⟨rfl, ok, B, lo, hi, by rw [lb_kn, if_neg hb]; rfl, gvv⟩
  · have e : lb_crease (L, n, tn, P, K) p m = (0, (L, sp_n1 n P p m, tn, sp_P1 n P p m, sp_K1 n P K p m)) := by
      show (sp_jd L n P p m, if sp_jd L n P p m = 0 then _ else _) = _
      rw [if_pos hb, hb]
    rw [e]
    refine ev_aload_n dF_tryCrease_14 rfl ?_
    refine ev_get dF_tryCrease_15 fl_F_12 rfl rfl ?_
    refine ev_iload_n dF_tryCrease_18 rfl ?_
    refine ev_iload_n dF_tryCrease_19 rfl ?_
    refine ev_cVv dF_tryCrease_20 cv_F_212 (ct_setCrease (L := L) (n := n) (tn := tn) (P := P) (K := K) (B := B) (lo := lo) (hi := hi) ok hb) rfl rfl rfl (Nat.le_of_ble_eq_true rfl) (Nat.le_of_ble_eq_true rfl) (Nat.le_of_ble_eq_true rfl) ?_
    refine ev_aload_n dF_tryCrease_23 rfl ?_
    refine ev_get dF_tryCrease_24 fl_F_28 rfl rfl ?_
    refine ev_cVv dF_tryCrease_27 cv_F_68 (ct_forget (L := L) (n := sp_n1 n P p m) (tn := tn) (P := sp_P1 n P p m) (K := sp_K1 n P K p m) (c0 := lc ty) (q1 := q1) (q2 := q2) (q3 := q3) (q4 := q4) (q5 := q5) (q6 := q6) (kn := kn) (fo := fo) (r := r) (mk := mk) (t := t)) rfl rfl rfl (Nat.le_of_ble_eq_true rfl) (Nat.le_of_ble_eq_true rfl) (Nat.le_of_ble_eq_true rfl) ?_
    refine ev_iload_n dF_tryCrease_30 rfl ?_
    refine ev_ireturn dF_tryCrease_31 rfl ?_
    refine ⟨by rw [hb], sp_ok1 ok hb, _, _, _, rfl, gv_ov (L, sp_n1 n P p m, tn, sp_P1 n P p m, sp_K1 n P K p m) B lo hi⟩
theorem ct_turn (hh : LB s ty q1 q2 q3 q4 q5 q6 kn fo r mk t h) :
    ev_C g mF_turn (d + 1) [.ref 0] h 0 0 (fun o h' => o = .inl (some (ev_i (ev_b (lb_turn s).2.2.1))) ∧ LB (lb_turn s) ty q1 q2 q3 q4 q5 q6 false fo r mk t h') := by
  obtain ⟨L, n, tn, P, K⟩ := s
  obtain ⟨ok, B, lo, hi, rfl, gvv⟩ := hh
  refine ev_ofE (by decide +kernel) rfl (Nat.le_of_ble_eq_true rfl) rfl rfl ?_
  refine ev_aload_n dF_turn_0 rfl ?_
  refine ev_get dF_turn_1 fl_F_12 rfl rfl ?_
  refine ev_cVv dF_turn_4 cv_F_65 (ct_turnOver (L := L) (n := n) (tn := tn) (P := P) (K := K) (B := B) (lo := lo) (hi := hi)) rfl rfl rfl (Nat.le_of_ble_eq_true rfl) (Nat.le_of_ble_eq_true rfl) (Nat.le_of_ble_eq_true rfl) ?_
  refine ev_aload_n dF_turn_7 rfl ?_
  refine ev_get dF_turn_8 fl_F_28 rfl rfl ?_
  refine ev_cVv dF_turn_11 cv_F_68 (ct_forget (L := L) (n := n) (tn := !tn) (P := P) (K := K) (c0 := lc ty) (q1 := q1) (q2 := q2) (q3 := q3) (q4 := q4) (q5 := q5) (q6 := q6) (kn := kn) (fo := fo) (r := r) (mk := mk) (t := t)) rfl rfl rfl (Nat.le_of_ble_eq_true rfl) (Nat.le_of_ble_eq_true rfl) (Nat.le_of_ble_eq_true rfl) ?_
  refine ev_aload_n dF_turn_14 rfl ?_
  refine ev_get dF_turn_15 fl_F_12 rfl rfl ?_
  refine ev_get dF_turn_18 fl_F_71 rfl rfl ?_
  refine ev_zreturn dF_turn_21 rfl ?_ ?_
  · exact ev_b01 _
  · exact ⟨rfl, ok, B, lo, hi, rfl, gvv⟩
end LA

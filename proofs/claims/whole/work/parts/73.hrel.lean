/-! ===== PURE 24: history on both sides ===== -/
def HR (H : V_Hi) (B : Nat → Int32) (N : Int32) : Prop := ∃ a c, a < 7 ∧ c ≤ 6 ∧ hiF H = nI a ∧ hiN H = nI c ∧ N = nI c ∧ ∀ k, k < c → ∃ n s, INV (hs H ((a + k) % 7)) n s ∧ REL (hs H ((a + k) % 7)) (fun j => B (2400 * k + j)) n s
/-- what a call leaves of history: an error, then an answer -/
theorem h_prep {H : V_Hi} {B : Nat → Int32} {N : Int32} {u : V_St} {n s : Nat} (h : HR H B N) (I : INV u n s) : ∃ H', f_Hi_prepare H u = some H' ∧ HR H' B N ∧ (∀ e : Int32, e < 0 → f_Hi_record e H' = some (e, H')) ∧ (∀ (r : Int32) (M : V_Md) (f : Nat → Int32), 0 ≤ r → REL u f n s → M.1 = f → M.2.2.1 = B → M.2.2.2.1 = N → ∃ H2 B2 N2, f_Hi_record r H' = some (r, H2) ∧ f_Md_record M = some (M.1, M.2.1, B2, N2, M.2.2.2.2) ∧ HR H2 B2 N2) := by
  obtain ⟨a, c, ha, hc, h1, h2, h3, h4⟩ := h
  obtain ⟨w, p1, p2⟩ := c_prepare I ha hc h1 h2
  have hm : (a + c) % 7 < 7 := Nat.mod_lt _ (by omega)
  obtain ⟨q1, q2, q3, q4⟩ := hs_st H w hm
  have Iw := INV_alk p2 I
  refine ⟨stH H ((a + c) % 7) w, p1, ⟨a, c, ha, hc, q3.trans h1, q4.trans h2, h3, fun k hk => ?_⟩, fun e he => ?_, fun r M f hr R hM hB hN => ?_⟩
  · rw [q2 _ (Nat.mod_lt _ (by omega)) (by omega)]
    exact h4 k hk
  · unfold f_Hi_record
    rw [ob_t he, ob_t he]
  · have hr' : ¬ r < 0 := by
      intro z
      rw [Int32.lt_iff_toInt_lt] at z
      rw [Int32.le_iff_toInt_le] at hr
      omega
    have f1 : (stH H ((a + c) % 7) w).2.2.2.2.2.2.2.1 = nI a := q3.trans h1
    have f2 : (stH H ((a + c) % 7) w).2.2.2.2.2.2.2.2 = nI c := q4.trans h2
    obtain ⟨B2, x1, x2, x3⟩ := r_record hc (hN.trans h3)
    have Rw := REL_alk p2 I R
    by_cases h6 : c = 6
    · subst h6
      have eH : f_Hi_record r (stH H ((a + 6) % 7) w) = some (r, ((stH H ((a + 6) % 7) w).1, (stH H ((a + 6) % 7) w).2.1, (stH H ((a + 6) % 7) w).2.2.1, (stH H ((a + 6) % 7) w).2.2.2.1, (stH H ((a + 6) % 7) w).2.2.2.2.1, (stH H ((a + 6) % 7) w).2.2.2.2.2.1, (stH H ((a + 6) % 7) w).2.2.2.2.2.2.1, nI ((a + 1) % 7), nI 6)) := by
        unfold f_Hi_record
        rw [ob_f hr', f1, f2, k6, ob_let (by omega) (by omega), ob_f hr', kk1, i_add, mod7 _ (by omega)]
      refine ⟨_, B2, _, eH, x1, (a + 1) % 7, 6, Nat.mod_lt _ (by omega), by omega, rfl, rfl, rfl, fun k hk => ?_⟩
      show ∃ n s, INV (hs (stH H ((a + 6) % 7) w) (((a + 1) % 7 + k) % 7)) n s ∧ REL (hs (stH H ((a + 6) % 7) w) (((a + 1) % 7 + k) % 7)) _ n s
      by_cases k5 : k = 5
      · subst k5
        have e : ((a + 1) % 7 + 5) % 7 = (a + 6) % 7 := by omega
        rw [e, q1]
        exact ⟨n, s, Iw, REL_row (f := f) (fun j hj => by have := x2 j hj; rw [hM] at this; exact this) Iw Rw⟩
      · obtain ⟨n', s', y1, y2⟩ := h4 (k + 1) (by omega)
        have e : ((a + 1) % 7 + k) % 7 = (a + (k + 1)) % 7 := by omega
        rw [e, q2 _ (Nat.mod_lt _ (by omega)) (by omega)]
        refine ⟨n', s', y1, REL_row (f := fun j => B (2400 * (k + 1) + j)) (fun j hj => ?_) y1 y2⟩
        have := x3 k j (by omega) hj
        rw [if_pos rfl, hB] at this
        exact this
    · have h5 : min c 5 = c := Nat.min_eq_left (by omega)
      have h56 : min (c + 1) 6 = c + 1 := Nat.min_eq_left (by omega)
      have eH : f_Hi_record r (stH H ((a + c) % 7) w) = some (r, ((stH H ((a + c) % 7) w).1, (stH H ((a + c) % 7) w).2.1, (stH H ((a + c) % 7) w).2.2.1, (stH H ((a + c) % 7) w).2.2.2.1, (stH H ((a + c) % 7) w).2.2.2.2.1, (stH H ((a + c) % 7) w).2.2.2.2.2.1, (stH H ((a + c) % 7) w).2.2.2.2.2.2.1, nI a, nI (c + 1))) := by
        unfold f_Hi_record
        rw [ob_f hr', f1, f2, k6, ob_lef (by omega) (by omega), kk1, i_add]
      rw [h5] at x2 x3
      refine ⟨_, B2, _, eH, x1, a, c + 1, ha, by omega, rfl, rfl, by rw [h56], fun k hk => ?_⟩
      show ∃ n s, INV (hs (stH H ((a + c) % 7) w) ((a + k) % 7)) n s ∧ REL (hs (stH H ((a + c) % 7) w) ((a + k) % 7)) _ n s
      by_cases kc : k = c
      · subst kc
        rw [q1]
        exact ⟨n, s, Iw, REL_row (f := f) (fun j hj => by have := x2 j hj; rw [hM] at this; exact this) Iw Rw⟩
      · obtain ⟨n', s', y1, y2⟩ := h4 k (by omega)
        rw [q2 _ (Nat.mod_lt _ (by omega)) (by omega)]
        refine ⟨n', s', y1, REL_row (f := fun j => B (2400 * k + j)) (fun j hj => ?_) y1 y2⟩
        have := x3 k j (by omega) hj
        rw [if_neg h6, hB] at this
        exact this
/-- a call with history, both sides -/
def CALL (V : V_Fd) (M : V_Md) (fc : Option (Int32 × V_Fd)) (fm : Option (Int32 × V_Md)) : Prop :=
  ∃ a V' M', fc = some (a, V') ∧ fm = some (a, M') ∧ V'.2.1 = V.2.1 ∧ V'.2.2.1 = V.2.2.1 ∧ V'.2.2.2.1 = V.2.2.2.1 ∧ M'.2.1 = M.2.1 ∧ M'.2.2.2.2 = M.2.2.2.2 ∧ (∃ n s, INV V'.1 n s ∧ REL V'.1 M'.1 n s) ∧ HR V'.2.2.2.2 M'.2.2.1 M'.2.2.2.1
theorem call_of {V : V_Fd} {M : V_Md} {n s : Nat} {fc : Option (Int32 × V_St)} {fm : V_Md → Option (Int32 × V_Md)} (I : INV V.1 n s) (R : REL V.1 M.1 n s) (h : HR V.2.2.2.2 M.2.2.1 M.2.2.2.1) (S : SIMM V.1 M.1 fc fm) :
    CALL V M (oc (f_Hi_prepare V.2.2.2.2 V.1) (fun q_8 => oc fc (fun q_19 => oc (f_Hi_record q_19.1 q_8) (fun q_22 => some (q_22.1, (q_19.2, V.2.1, V.2.2.1, V.2.2.2.1, q_22.2)))))) (fm M) := by
  obtain ⟨H', p1, p2, p3, p4⟩ := h_prep h I
  rcases S with ⟨e, s1, s2, s3⟩ | ⟨a, v', f', n', s', s1, s2, s3, s4, s5⟩
  · refine ⟨e, (V.1, V.2.1, V.2.2.1, V.2.2.2.1, H'), M, ?_, s3 M rfl, rfl, rfl, rfl, rfl, rfl, ⟨n, s, I, R⟩, p2⟩
    rw [p1, oc_s, s2, oc_s, p3 e s1, oc_s]
  · obtain ⟨H2, B2, N2, x1, x2, x3⟩ := p4 a M M.1 s1 R rfl rfl rfl
    refine ⟨a, (v', V.2.1, V.2.2.1, V.2.2.2.1, H2), (f', M.2.1, B2, N2, M.2.2.2.2), ?_, s3 M _ rfl x2 rfl, rfl, rfl, rfl, rfl, rfl, ⟨n', s', s4, s5⟩, x3⟩
    rw [p1, oc_s, s2, oc_s, x1, oc_s]
theorem s_undo {V : V_Fd} {M : V_Md} {n s : Nat} (I : INV V.1 n s) (R : REL V.1 M.1 n s) (h : HR V.2.2.2.2 M.2.2.1 M.2.2.2.1) : CALL V M (f_Fd_undo V) (f_Md_undo M) := by
  obtain ⟨a, c, ha, hc, h1, h2, h3, h4⟩ := id h
  have h2' : V.2.2.2.2.2.2.2.2.2.2.2.2 = nI c := h2
  by_cases c0 : c = 0
  · subst c0
    refine ⟨-5, V, M, ?_, ?_, rfl, rfl, rfl, rfl, rfl, ⟨n, s, I, R⟩, h⟩
    · unfold f_Fd_undo f_Hi_length
      rw [oc_s, h2']
      exact ob_t rfl
    · unfold f_Md_undo
      rw [h3]
      exact ob_t rfl
  · obtain ⟨n', s', y1, y2⟩ := h4 (c - 1) (by omega)
    obtain ⟨w, t1, t2⟩ := c_takeB (u := V.1) ha (by omega) hc h1 h2 y1
    obtain ⟨g, x1, x2, x3⟩ := r_copy (n1 := 14400) (n2 := 2400) (a := 2400 * (c - 1)) (b := 0) (by omega) (by omega) (by omega) (by omega) M.2.2.1 M.1
    have ne : ¬ nI c = 0 := by
      rw [k0]
      exact fun q => c0 (i_inj (by omega) (by omega) q)
    have es : nI c - (1 : Int32) = nI (c - 1) := by rw [kk1, i_sub (by omega)]
    have Iw := INV_alk t2 y1
    have Rw := REL_alk t2 y1 y2
    refine ⟨nI (c - 1), (w, V.2.1, V.2.2.1, V.2.2.2.1, (V.2.2.2.2.1, V.2.2.2.2.2.1, V.2.2.2.2.2.2.1, V.2.2.2.2.2.2.2.1, V.2.2.2.2.2.2.2.2.1, V.2.2.2.2.2.2.2.2.2.1, V.2.2.2.2.2.2.2.2.2.2.1, V.2.2.2.2.2.2.2.2.2.2.2.1, nI (c - 1))), (g, M.2.1, M.2.2.1, nI (c - 1), M.2.2.2.2), ?_, ?_, rfl, rfl, rfl, rfl, rfl, ⟨n', s', Iw, REL_row (f := fun j => M.2.2.1 (2400 * (c - 1) + j)) (fun j hj => by have := x2 j hj; rw [Nat.zero_add] at this; exact this) Iw Rw⟩, a, c - 1, ha, by omega, h1, rfl, rfl, fun k hk => ?_⟩
    · unfold f_Fd_undo f_Hi_length
      rw [oc_s, h2', ob_f ne, t1, oc_s, oc_s]
    · unfold f_Md_undo
      rw [h3, ob_f ne, es, k2400, i_mul, k0, x1, oc_s]
    · obtain ⟨n2, s2, z1, z2⟩ := h4 k (by omega)
      have hk7 : (a + k) % 7 < 7 := Nat.mod_lt _ (by omega)
      have e : ∀ j, j < 7 → hs (V.2.2.2.2.1, V.2.2.2.2.2.1, V.2.2.2.2.2.2.1, V.2.2.2.2.2.2.2.1, V.2.2.2.2.2.2.2.2.1, V.2.2.2.2.2.2.2.2.2.1, V.2.2.2.2.2.2.2.2.2.2.1, V.2.2.2.2.2.2.2.2.2.2.2.1, nI (c - 1)) j = hs V.2.2.2.2 j := fun j hj => by
        rcases l7 hj with rfl | rfl | rfl | rfl | rfl | rfl | rfl <;> rfl
      rw [e _ hk7]
      exact ⟨n2, s2, z1, z2⟩

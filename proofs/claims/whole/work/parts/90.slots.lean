/-! ===== PURE 41: slots ===== -/
def SLa (i : Nat) (u : V_St) (M : V_Md) : Prop := M.2.2.2.2.2.1 i = 1 ∧ ∃ n s, INV u n s ∧ REL u (fun j => M.2.2.2.2.1 (2400 * i + j)) n s
def SLe (i : Nat) (M : V_Md) : Prop := M.2.2.2.2.2.1 i = 0
theorem SLa_cg {i : Nat} {u : V_St} {M M' : V_Md} (h : SLa i u M) (e1 : M'.2.2.2.2.1 = M.2.2.2.2.1) (e2 : M'.2.2.2.2.2.1 = M.2.2.2.2.2.1) : SLa i u M' := by
  unfold SLa at h ⊢
  rw [e1, e2]
  exact h
theorem SLe_cg {i : Nat} {M M' : V_Md} (h : SLe i M) (e2 : M'.2.2.2.2.2.1 = M.2.2.2.2.2.1) : SLe i M' := by
  unfold SLe at h ⊢
  rw [e2]
  exact h
theorem slot_arg (x : Int32) : (∃ i : Nat, i < 2 ∧ x = nI i ∧ f_Fd_isSlot x = some 1 ∧ f_Md_in x.toInt64 0 1 = some 1) ∨ (f_Fd_isSlot x = some 0 ∧ f_Md_in x.toInt64 0 1 = some 0) := by
  rcases i_cases x with h | ⟨j, h1, rfl⟩
  · refine Or.inr ⟨?_, r_inN ?_⟩
    · unfold f_Fd_isSlot
      rw [ob_t h]
    · rintro ⟨a, -⟩
      have : (0 : Int) ≤ x.toInt := a
      have := i_negI h
      omega
  · have hn : ¬ nI j < 0 := by
      rw [k0]
      exact nI_nlt (by omega) (by omega)
    by_cases q : j < 2
    · refine Or.inl ⟨j, q, rfl, ?_, r_in ?_⟩
      · unfold f_Fd_isSlot
        rw [ob_f hn, k2, ob_lef (by omega) (by omega)]
      · rw [i_tI (by omega)]
        exact ⟨by show (0 : Int) ≤ _; omega, by show _ ≤ (1 : Int); omega⟩
    · refine Or.inr ⟨?_, r_inN ?_⟩
      · unfold f_Fd_isSlot
        rw [ob_f hn, k2, ob_let (by omega) (by omega)]
      · rw [i_tI (by omega)]
        rintro ⟨-, b⟩
        have : (j : Int) ≤ 1 := b
        omega
theorem keep_ref {V : V_Fd} {M : V_Md} (h : ALL V M) {i : Nat} (hi : i < 2) : ∃ M', f_Md_keep (nI i) M = some (V.1.2.1.2.2.2.2.2.2.2.1, M') ∧ ALL V M' ∧ (∀ g, ∃ q, f_St_become g V.1 = some q ∧ SLa i q M') ∧ ∀ i' : Nat, i' < 2 → ¬ i' = i → (SLe i' M → SLe i' M') ∧ ∀ u, SLa i' u M → SLa i' u M' := by
  obtain ⟨⟨n, s, I, R⟩, h2, h3⟩ := h
  have hin : f_Md_in (nI i).toInt64 0 1 = some 1 := by
    rcases slot_arg (nI i) with ⟨-, -, -, -, x⟩ | ⟨y, -⟩
    · exact x
    · unfold f_Fd_isSlot at y
      rw [ob_f (show ¬ nI i < 0 by rw [k0]; exact nI_nlt (by omega) (by omega)), k2, ob_lef (by omega) (by omega)] at y
      exact absurd (Option.some.inj y) d10
  obtain ⟨g, x1, x2, x3⟩ := r_copy (n1 := 2400) (n2 := 4800) (a := 0) (b := 2400 * i) (by omega) (by omega) (by omega) (by omega) M.1 M.2.2.2.2.1
  have e57 : M.1 57 = nI n := R.1.2.1
  have esz : V.1.2.1.2.2.2.2.2.2.2.1 = nI n := I.1.1
  have eb : vp_nar .boolean (1 : Int32) = 1 := by decide
  refine ⟨(M.1, M.2.1, M.2.2.1, M.2.2.2.1, g, upd M.2.2.2.2.2.1 i 1, M.2.2.2.2.2.2.1, M.2.2.2.2.2.2.2.1, M.2.2.2.2.2.2.2.2), ?_, ⟨⟨n, s, I, R⟩, h2, h3⟩, fun z => ?_, fun i' hi' hne => ⟨fun q => ?_, fun u q => ?_⟩⟩
  · unfold f_Md_keep
    rw [hin, oc_s, ob_f d10, k2400, i_mul, k0, x1, oc_s, og_in hi (by omega), eb, nx_s, i_cl (by omega), k57, og_in (by omega) (by omega), i_cl (by omega), e57, esz]
  · obtain ⟨q, y1, y2⟩ := c_become z I
    refine ⟨q, y1, up_s _ _ _, n, s, INV_alk y2 I, REL_row (f := M.1) (fun j hj => ?_) (INV_alk y2 I) (REL_alk y2 I R)⟩
    have := x2 j hj
    rw [Nat.zero_add] at this
    exact this
  · exact (up_n _ _ hne).trans q
  · obtain ⟨q1, n', s', q2, q3⟩ := q
    refine ⟨(up_n _ _ hne).trans q1, n', s', q2, REL_row (f := fun j => M.2.2.2.2.1 (2400 * i' + j)) (fun j hj => ?_) q2 q3⟩
    exact x3 _ (by omega)
theorem keep_no {V : V_Fd} {M : V_Md} (h : ALL V M) {x : Int32} (h1 : f_Fd_isSlot x = some 0) (h2 : f_Md_in x.toInt64 0 1 = some 0) : f_Fd_keepN x V = some (-2, V) ∧ f_Md_keep x M = some (-2, M) := by
  constructor
  · unfold f_Fd_keepN
    rw [h1, oc_s, ob_rfl]
  · unfold f_Md_keep
    rw [h2, oc_s, ob_rfl]
theorem bring_go {V : V_Fd} {M : V_Md} (h : ALL V M) {i : Nat} (hi : i < 2) (hin : f_Md_in (nI i).toInt64 0 1 = some 1) {u : V_St} (hs : SLa i u M) : ∃ q32 q44 a H2 M', f_Hi_prepare V.2.2.2.2 V.1 = some q32 ∧ f_St_become V.1 u = some q44 ∧ f_Hi_record q44.2.1.2.2.2.2.2.2.2.1 q32 = some (a, H2) ∧ f_Md_bring (nI i) M = some (a, M') ∧ ALL (q44, V.2.1, V.2.2.1, V.2.2.2.1, H2) M' ∧ M'.2.2.2.2.1 = M.2.2.2.2.1 ∧ M'.2.2.2.2.2.1 = M.2.2.2.2.2.1 := by
  obtain ⟨⟨n, s, I, R⟩, h2, m, hm, hp⟩ := h
  obtain ⟨hf, n', s', I', R'⟩ := hs
  obtain ⟨H', p1, p2, p3, p4⟩ := h_prep h2 I
  obtain ⟨q, y1, y2⟩ := c_become V.1 I'
  have Iq := INV_alk y2 I'
  have Rq := REL_alk y2 I' R'
  have esz : q.2.1.2.2.2.2.2.2.2.1 = nI n' := Iq.1.1
  have h300 := VL_300 Iq.1.2.1
  obtain ⟨H2, B2, N2, t1, t2, t3⟩ := p4 (nI n') M M.1 (nI_pos' (by omega)) R rfl rfl rfl
  obtain ⟨g, x1, x2, x3⟩ := r_copy (n1 := 4800) (n2 := 2400) (a := 2400 * i) (b := 0) (by omega) (by omega) (by omega) (by omega) M.2.2.2.2.1 M.1
  have Rg : REL q g n' s' := REL_row (f := fun j => M.2.2.2.2.1 (2400 * i + j)) (fun j hj => by
    have := x2 j hj
    rw [Nat.zero_add] at this
    exact this) Iq Rq
  have e57 : g 57 = nI n' := Rg.1.2.1
  refine ⟨H', q, nI n', H2, (g, M.2.1, B2, N2, M.2.2.2.2), p1, y1, by rw [esz]; exact t1, ?_, ⟨⟨n', s', Iq, Rg⟩, t3, m, hm, hp⟩, rfl, rfl⟩
  unfold f_Md_bring
  rw [hin, oc_s, ob_f d10, og_in hi (by omega), i_cl (by omega), hf, ob_f d10, t2, oc_s]
  dsimp only
  rw [k2400, i_mul, k0, x1, oc_s, k57, og_in (by omega) (by omega), i_cl (by omega), e57]
theorem bring_no {M : V_Md} {x : Int32} (h2 : f_Md_in x.toInt64 0 1 = some 0) : f_Md_bring x M = some (-2, M) := by
  unfold f_Md_bring
  rw [h2, oc_s, ob_rfl]
theorem bring_e {M : V_Md} {i : Nat} (hi : i < 2) (hin : f_Md_in (nI i).toInt64 0 1 = some 1) (he : SLe i M) : f_Md_bring (nI i) M = some (-5, M) := by
  unfold f_Md_bring
  rw [hin, oc_s, ob_f d10, og_in hi (by omega), i_cl (by omega)]
  exact ob_t he
theorem ob_nn {α : Sort _} {x : Nat} {A B : α} : ob (x = x) A B = A := ob_t rfl
section BR
variable {V : V_Fd} {M : V_Md} {x : Int32}
theorem one_or {i : Nat} (h : i < 2) : i = 0 ∨ i = 1 := by omega
theorem DONE_r (h : ALL V M) (a : Int32) {fc : Option (Int32 × V_Fd)} {fm : Option (Int32 × V_Md)} (h1 : fc = some (a, V)) (h2 : fm = some (a, M)) : DONE M fc fm := ⟨a, V, M, h1, h2, h, rfl, rfl⟩
theorem s_bring0 (h : ALL V M) (e0 : SLe 0 M) (e1 : SLe 1 M) (w : V_S0) : DONE M (f_Fd_bring_S0 x V w) (f_Md_bring x M) := by
  rcases slot_arg x with ⟨i, hi, rfl, a1, a2⟩ | ⟨a1, a2⟩
  · refine DONE_r h (-5) ?_ (bring_e hi a2 ?_)
    · unfold f_Fd_bring_S0 f_S0_isFilled
      rw [a1, oc_s, ob_f d10, oc_s, ob_f d10, og_in hi (by omega), i_cl (by omega)]
      rcases one_or hi with rfl | rfl
      · rw [ob_nn, oc_s, ob_rfl]
      · rw [ob_f (by decide), ob_nn, oc_s, ob_rfl]
    · rcases one_or hi with rfl | rfl
      · exact e0
      · exact e1
  · refine DONE_r h (-2) ?_ (bring_no a2)
    unfold f_Fd_bring_S0
    rw [a1, oc_s, ob_rfl]
theorem s_bring1 {u : V_St} (h : ALL V M) (e0 : SLa 0 u M) (e1 : SLe 1 M) : DONE M (f_Fd_bring_S1 x V u) (f_Md_bring x M) := by
  rcases slot_arg x with ⟨i, hi, rfl, a1, a2⟩ | ⟨a1, a2⟩
  · rcases one_or hi with rfl | rfl
    · obtain ⟨q32, q44, a, H2, M', g1, g2, g3, g4, g5, g6, g7⟩ := bring_go h hi a2 e0
      refine ⟨a, _, M', ?_, g4, g5, g6, g7⟩
      unfold f_Fd_bring_S1 f_S1_isFilled f_S1_fetch
      rw [a1, oc_s, ob_f d10, oc_s, ob_f d10, og_in hi (by omega), i_cl (by omega), ob_nn, oc_s, ob_f d10, g1, oc_s, oc_s, ob_f d10, og_in hi (by omega), ob_nn, g2, oc_s, oc_s, g3, oc_s]
    · refine DONE_r h (-5) ?_ (bring_e hi a2 e1)
      unfold f_Fd_bring_S1 f_S1_isFilled
      rw [a1, oc_s, ob_f d10, oc_s, ob_f d10, og_in hi (by omega), i_cl (by omega), ob_f (by decide), ob_nn, oc_s, ob_rfl]
  · refine DONE_r h (-2) ?_ (bring_no a2)
    unfold f_Fd_bring_S1
    rw [a1, oc_s, ob_rfl]
theorem s_bring2 {u : V_St} (h : ALL V M) (e0 : SLe 0 M) (e1 : SLa 1 u M) : DONE M (f_Fd_bring_S2 x V u) (f_Md_bring x M) := by
  rcases slot_arg x with ⟨i, hi, rfl, a1, a2⟩ | ⟨a1, a2⟩
  · rcases one_or hi with rfl | rfl
    · refine DONE_r h (-5) ?_ (bring_e hi a2 e0)
      unfold f_Fd_bring_S2 f_S2_isFilled
      rw [a1, oc_s, ob_f d10, oc_s, ob_f d10, og_in hi (by omega), i_cl (by omega), ob_nn, oc_s, ob_rfl]
    · obtain ⟨q32, q44, a, H2, M', g1, g2, g3, g4, g5, g6, g7⟩ := bring_go h hi a2 e1
      refine ⟨a, _, M', ?_, g4, g5, g6, g7⟩
      unfold f_Fd_bring_S2 f_S2_isFilled f_S2_fetch
      rw [a1, oc_s, ob_f d10, oc_s, ob_f d10, og_in hi (by omega), i_cl (by omega), ob_f (by decide), ob_nn, oc_s, ob_f d10, g1, oc_s, oc_s, ob_f d10, og_in hi (by omega), ob_f (by decide), ob_nn, g2, oc_s, oc_s, g3, oc_s]
  · refine DONE_r h (-2) ?_ (bring_no a2)
    unfold f_Fd_bring_S2
    rw [a1, oc_s, ob_rfl]
theorem s_bring3 {u : V_St × V_St} (h : ALL V M) (e0 : SLa 0 u.1 M) (e1 : SLa 1 u.2 M) : DONE M (f_Fd_bring_S3 x V u) (f_Md_bring x M) := by
  rcases slot_arg x with ⟨i, hi, rfl, a1, a2⟩ | ⟨a1, a2⟩
  · rcases one_or hi with rfl | rfl
    · obtain ⟨q32, q44, a, H2, M', g1, g2, g3, g4, g5, g6, g7⟩ := bring_go h hi a2 e0
      refine ⟨a, _, M', ?_, g4, g5, g6, g7⟩
      unfold f_Fd_bring_S3 f_S3_isFilled f_S3_fetch
      rw [a1, oc_s, ob_f d10, oc_s, ob_f d10, og_in hi (by omega), i_cl (by omega), ob_nn, oc_s, ob_f d10, g1, oc_s, oc_s, ob_f d10, og_in hi (by omega), ob_nn, g2, oc_s, oc_s, g3, oc_s]
    · obtain ⟨q32, q44, a, H2, M', g1, g2, g3, g4, g5, g6, g7⟩ := bring_go h hi a2 e1
      refine ⟨a, _, M', ?_, g4, g5, g6, g7⟩
      unfold f_Fd_bring_S3 f_S3_isFilled f_S3_fetch
      rw [a1, oc_s, ob_f d10, oc_s, ob_f d10, og_in hi (by omega), i_cl (by omega), ob_f (by decide), ob_nn, oc_s, ob_f d10, g1, oc_s, oc_s, ob_f d10, og_in hi (by omega), ob_f (by decide), ob_nn, g2, oc_s, oc_s, g3, oc_s]
  · refine DONE_r h (-2) ?_ (bring_no a2)
    unfold f_Fd_bring_S3
    rw [a1, oc_s, ob_rfl]
end BR

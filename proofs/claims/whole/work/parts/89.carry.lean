/-! ===== PURE 40: the whole relation; fault and carryOut ===== -/
def ALL (V : V_Fd) (M : V_Md) : Prop := (∃ n s, INV V.1 n s ∧ REL V.1 M.1 n s) ∧ HR V.2.2.2.2 M.2.2.1 M.2.2.2.1 ∧ ∃ m, m ≤ 80 ∧ PD V.2.2.1 M.2.2.2.2.2.2.1 M.2.2.2.2.2.2.2.1 m
def DONE (M : V_Md) (fc : Option (Int32 × V_Fd)) (fm : Option (Int32 × V_Md)) : Prop := ∃ a V' M', fc = some (a, V') ∧ fm = some (a, M') ∧ ALL V' M' ∧ M'.2.2.2.2.1 = M.2.2.2.2.1 ∧ M'.2.2.2.2.2.1 = M.2.2.2.2.2.1
noncomputable def ENDV (b : Int32) (w : V_St) (T : V_St) (Q : V_Pd) (O : V_Or) (H : V_Hi) : Option (Int32 × V_Fd) := oc (f_Pd_empty Q) (fun q_75 => oc (f_Hi_record b H) (fun q_83 => some (q_83.1, (w, T, q_75, O, q_83.2))))
section CC
variable {P : V_Pd} {M : V_Md} {m : Nat} {O : V_Or} {T : V_St} {H : V_Hi}
theorem do_loop (h : PD P M.2.2.2.2.2.2.1 M.2.2.2.2.2.2.2.1 m) (hm : m ≤ 80) : ∀ (r k i j n s N1 N2 : Nat) (w : V_St) (R : Nat → Int32), r + 1 < N1 → r + 1 < N2 → INV w n s → REL w R n s → ORD M m i (O.1 k) (O.2.1 k) (O.2.2.1 k) (O.2.2.2.1 k) j → REST M m O r (k + 1) j → O.2.2.2.2.1 = nI (k + 1 + r) → k + 1 + r ≤ 80 →
    ∃ (b : Nat) (w' : V_St) (R' : Nat → Int32) (p : Int32) (n' s' : Nat), b ≤ 80 ∧ f_Fd_carryOut_39 N1 (nI k) (w, T, P, O, H) = ENDV (nI b) w' T P O H ∧ f_Md_carryOut_25 N2 (nI k) 1 (mP (R, M.2) i) = some (nI b, (R', M.2.1, M.2.2.1, M.2.2.2.1, M.2.2.2.2.1, M.2.2.2.2.2.1, M.2.2.2.2.2.2.1, (0 : Int32), p)) ∧ INV w' n' s' ∧ REL w' R' n' s' := by
  intro r
  induction r with
  | zero =>
    intro k i j n s N1 N2 w R h1 h2 I Rl hO hR hc hk
    obtain ⟨N1, rfl⟩ : ∃ q, N1 = q + 2 := ⟨N1 - 2, by omega⟩
    obtain ⟨N2, rfl⟩ : ∃ q, N2 = q + 2 := ⟨N2 - 2, by omega⟩
    have hl : f_Or_length O = some (nI (k + 1)) := by
      unfold f_Or_length
      rw [hc]
    have eC : f_Fd_carryOut_39 (N1 + 2) (nI k) (w, T, P, O, H) = oc (f_Or_obey (nI k) O w) (fun q_59 => ob (q_59.1 < 0) (ENDV (nI k) q_59.2 T P O H) (f_Fd_carryOut_39 (N1 + 1) (nI (k + 1)) (q_59.2, T, P, O, H))) := by
      rw [e_Fd_carryOut_39]
      dsimp only
      rw [hl, oc_s, ob_lef (by omega) (by omega), kk1, i_add]
      rfl
    have eM : f_Md_carryOut_25 (N2 + 2) (nI k) 1 (mP (R, M.2) i) = oc (f_Md_doOrder (mP (R, M.2) i)) (fun q_30 => ob (q_30.1 = 0) (some (nI k, (q_30.2.1, q_30.2.2.1, q_30.2.2.2.1, q_30.2.2.2.2.1, q_30.2.2.2.2.2.1, q_30.2.2.2.2.2.2.1, q_30.2.2.2.2.2.2.2.1, (0 : Int32), q_30.2.2.2.2.2.2.2.2.2))) (oc (f_Md_taken (59 : Int32) (59 : Int32) q_30.2) (fun q_44 => ob (q_44.1 = (-6 : Int32)) (f_Md_carryOut_25 (N2 + 1) (nI k + 1) (0 : Int32) q_44.2) (f_Md_carryOut_25 (N2 + 1) (nI k + 1) (1 : Int32) q_44.2)))) := by
      rw [e_Md_carryOut_25, ob_f d10]
    rcases obey h hm I Rl (by omega) hO with ⟨e, x1, x2, x3⟩ | ⟨a, w', R', n', s', x1, x2, x3, x4, x5⟩
    · refine ⟨k, w, R, nI j, n, s, by omega, ?_, ?_, I, Rl⟩
      · rw [eC, x2, oc_s, ob_t x1]
      · rw [eM, x3, oc_s, ob_rfl]
    · have hjm : j = m := hR
      have ha : ¬ a < 0 := fun z => by
        rw [Int32.lt_iff_toInt_lt] at z
        rw [Int32.le_iff_toInt_le] at x1
        omega
      obtain ⟨-, e2⟩ := expe2 (M := (R', M.2)) (A := O.1) (B := O.1) (C := O.1) (D := O.1) (n := 0) (i := j) (q := 59) h hm (by omega) (by omega) (by omega)
      obtain ⟨-, y2⟩ := e2 (fun z => by have := z.1; omega)
      refine ⟨k + 1, w', R', nI j, n', s', by omega, ?_, ?_, x4, x5⟩
      · rw [eC, x2, oc_s, ob_f ha, e_Fd_carryOut_39]
        dsimp only
        rw [hl, oc_s, ob_let (by omega) (by omega)]
        rfl
      · have e59 : (59 : Int32) = nI 59 := rfl
        have y3 : f_Md_taken (nI 59) (nI 59) (mk1 R' (mP (R, M.2) j)) = some (-6, mP (R', M.2) j) := y2
        rw [eM, x3, oc_s, ob_f d10, e59, y3, oc_s, ob_rfl, e_Md_carryOut_25, ob_rfl, kk1, i_add]
  | succ r ih =>
    intro k i j n s N1 N2 w R h1 h2 I Rl hO hR hc hk
    obtain ⟨N1, rfl⟩ : ∃ q, N1 = q + 1 := ⟨N1 - 1, by omega⟩
    obtain ⟨N2, rfl⟩ : ∃ q, N2 = q + 1 := ⟨N2 - 1, by omega⟩
    have hl : f_Or_length O = some (nI (k + 1 + (r + 1))) := by
      unfold f_Or_length
      rw [hc]
    have eC : f_Fd_carryOut_39 (N1 + 1) (nI k) (w, T, P, O, H) = oc (f_Or_obey (nI k) O w) (fun q_59 => ob (q_59.1 < 0) (ENDV (nI k) q_59.2 T P O H) (f_Fd_carryOut_39 N1 (nI (k + 1)) (q_59.2, T, P, O, H))) := by
      rw [e_Fd_carryOut_39]
      dsimp only
      rw [hl, oc_s, ob_lef (by omega) (by omega), kk1, i_add]
      rfl
    have eM : f_Md_carryOut_25 (N2 + 1) (nI k) 1 (mP (R, M.2) i) = oc (f_Md_doOrder (mP (R, M.2) i)) (fun q_30 => ob (q_30.1 = 0) (some (nI k, (q_30.2.1, q_30.2.2.1, q_30.2.2.2.1, q_30.2.2.2.2.1, q_30.2.2.2.2.2.1, q_30.2.2.2.2.2.2.1, q_30.2.2.2.2.2.2.2.1, (0 : Int32), q_30.2.2.2.2.2.2.2.2.2))) (oc (f_Md_taken (59 : Int32) (59 : Int32) q_30.2) (fun q_44 => ob (q_44.1 = (-6 : Int32)) (f_Md_carryOut_25 N2 (nI k + 1) (0 : Int32) q_44.2) (f_Md_carryOut_25 N2 (nI k + 1) (1 : Int32) q_44.2)))) := by
      rw [e_Md_carryOut_25, ob_f d10]
    rcases obey h hm I Rl (by omega) hO with ⟨e, x1, x2, x3⟩ | ⟨a, w', R', n', s', x1, x2, x3, x4, x5⟩
    · refine ⟨k, w, R, nI j, n, s, by omega, ?_, ?_, I, Rl⟩
      · rw [eC, x2, oc_s, ob_t x1]
      · rw [eM, x3, oc_s, ob_rfl]
    · obtain ⟨hj1, hj2, j2, hO2, hR2⟩ := hR
      have ha : ¬ a < 0 := fun z => by
        rw [Int32.lt_iff_toInt_lt] at z
        rw [Int32.le_iff_toInt_le] at x1
        omega
      obtain ⟨e1, -⟩ := expe2 (M := M) (A := O.1) (B := O.1) (C := O.1) (D := O.1) (n := 0) (i := j) (q := 59) h hm (by omega) (by omega) (by omega)
      obtain ⟨-, y2⟩ := e1 ⟨hj1, hj2⟩
      have y3 : f_Md_taken (nI 59) (nI 59) (mk1 R' (mP (R, M.2) j)) = some (0, mP (R', M.2) (j + 1)) := y2 R'
      obtain ⟨b, w2, R2, p, n2, s2, z1, z2, z3, z4, z5⟩ := ih (k + 1) (j + 1) j2 n' s' N1 N2 w' R' (by omega) (by omega) x4 x5 hO2 hR2 (by rw [hc]; congr 1; omega) (by omega)
      have e59 : (59 : Int32) = nI 59 := rfl
      refine ⟨b, w2, R2, p, n2, s2, z1, ?_, ?_, z4, z5⟩
      · rw [eC, x2, oc_s, ob_f ha]
        exact z2
      · rw [eM, x3, oc_s, ob_f d10, e59, y3, oc_s, ob_f dm06, ← z3]
        have ek : nI k + (1 : Int32) = nI (k + 1) := by rw [kk1, i_add]
        rw [ek]
end CC
theorem s_fault {V : V_Fd} {M : V_Md} (h : ALL V M) : DONE M (f_Fd_fault V) (f_Md_fault M) := by
  obtain ⟨h1, h2, m, hm, hp⟩ := h
  obtain ⟨v', a, j', x1, x2, x3, -⟩ := r_read hp hm V.2.2.2.1
  refine ⟨a, (V.1, V.2.1, V.2.2.1, v', V.2.2.2.2), mP M j', ?_, x2, ⟨h1, h2, m, hm, hp⟩, rfl, rfl⟩
  unfold f_Fd_fault f_Or_firstFault
  rw [x1, oc_s, oc_s, x3]
theorem s_carryOut {V : V_Fd} {M : V_Md} (h : ALL V M) : DONE M (f_Fd_carryOut V) (f_Md_carryOut M) := by
  obtain ⟨⟨n, s, I, R⟩, h2, m, hm, hp⟩ := h
  obtain ⟨v', a, j', x1, x2, x3, x4⟩ := r_read hp hm V.2.2.2.1
  have eC : f_Fd_carryOut V = ob (a = (-6 : Int32)) (oc (f_Hi_prepare V.2.2.2.2 V.1) (fun q_34 => f_Fd_carryOut_39 FU (0 : Int32) (V.1, V.2.1, V.2.2.1, v', q_34))) (some ((-3 : Int32), (V.1, V.2.1, V.2.2.1, v', V.2.2.2.2))) := by
    unfold f_Fd_carryOut f_Or_firstFault
    rw [x1, oc_s, oc_s, x3]
  by_cases q : a = (-6 : Int32)
  rotate_left
  · refine ⟨-3, (V.1, V.2.1, V.2.2.1, v', V.2.2.2.2), mP M j', by rw [eC, ob_f q], ?_, ⟨⟨n, s, I, R⟩, h2, m, hm, hp⟩, rfl, rfl⟩
    unfold f_Md_carryOut
    rw [x2, oc_s, ob_f q]
  obtain ⟨H', p1, p2, p3, p4⟩ := h_prep h2 I
  obtain ⟨H0, B2, N2, -, y2, -⟩ := p4 0 (mP M j') M.1 (by decide) R rfl rfl rfl
  obtain ⟨v2, a2, j2, g1, g2, g3, g4⟩ := r_read (M := (M.1, M.2.1, B2, N2, M.2.2.2.2)) hp hm V.2.2.2.1
  have ev : v2 = v' := Option.some.inj (g1.symm.trans x1)
  subst ev
  have ea : a2 = a := g3.symm.trans x3
  obtain ⟨r, j, u1, u2, u3, u4⟩ := g4 (ea.trans q)
  obtain ⟨b, w', R', p, n', s', z1, z2, z3, z4, z5⟩ := do_loop (M := (M.1, M.2.1, B2, N2, M.2.2.2.2)) (T := V.2.1) (H := H') hp hm r 0 0 j n s FU FU V.1 M.1 (by unfold FU; omega) (by unfold FU; omega) I R u3 u4 (by rw [u1]; congr 1; omega) (by omega)
  obtain ⟨H2, B3, N3, t1, t2, t3⟩ := p4 (nI b) (mP M j') M.1 (nI_pos' (by omega)) R rfl rfl rfl
  have e3 := Option.some.inj (t2.symm.trans y2)
  have eB : B3 = B2 := congrArg (fun z => z.2.2.1) e3
  have eN : N3 = N2 := congrArg (fun z => z.2.2.2.1) e3
  subst eB
  subst eN
  refine ⟨nI b, (w', V.2.1, (V.2.2.1.1, (0 : Int32)), v2, H2), (R', M.2.1, B3, N3, M.2.2.2.2.1, M.2.2.2.2.2.1, M.2.2.2.2.2.2.1, (0 : Int32), p), ?_, ?_, ⟨⟨n', s', z4, z5⟩, t3, 0, by omega, rfl, rfl, fun j hj => by omega⟩, rfl, rfl⟩
  · rw [eC, ob_t q, p1, oc_s]
    refine z2.trans ?_
    unfold ENDV f_Pd_empty
    rw [oc_s, t1, oc_s]
  · unfold f_Md_carryOut
    rw [x2, oc_s, ob_t q, y2, oc_s]
    exact z3

/-! ===== PURE 37: all orders read ===== -/
def REST (M : V_Md) (m : Nat) (v : V_Or) : Nat → Nat → Nat → Prop
  | 0, _, j => j = m
  | r + 1, n, j => j < m ∧ M.2.2.2.2.2.2.1 j = nI 59 ∧ ∃ j2, ORD M m (j + 1) (v.1 n) (v.2.1 n) (v.2.2.1 n) (v.2.2.2.1 n) j2 ∧ REST M m v r (n + 1) j2
theorem v_eta {v : V_Or} {n i : Nat} (h1 : v.2.2.2.2.1 = nI n) (h2 : v.2.2.2.2.2.1 = nI i) (h3 : v.2.2.2.2.2.2 = (-6 : Int32)) : v = oW v.1 v.2.1 v.2.2.1 v.2.2.2.1 n i := by
  obtain ⟨a, b, c, d, e, f, g⟩ := v
  have h1' : e = nI n := h1
  have h2' : f = nI i := h2
  have h3' : g = (-6 : Int32) := h3
  subst h1'
  subst h2'
  subst h3'
  rfl
section RR
variable {P : V_Pd} {M : V_Md} {m : Nat}
theorem rd_flt {v : V_Or} {e N : Nat} {l : Int32} (he : e < 2147483648) (h : v.2.2.2.2.2.2 = nI e) : f_Or_read_23 (N + 1) l v P = some v := by
  rw [e_Or_read_23]
  by_cases q : (80 : Int32) ≤ l
  · rw [ob_t q]
  · rw [ob_f q, ob_f (by rw [h]; exact m6_ne e he)]
theorem rd_step {A B C D : Nat → Int32} {n j k N : Nat} (h : PD P M.2.2.2.2.2.2.1 M.2.2.2.2.2.2.2.1 m) (hm : m ≤ 80) (hj : j < m) (hk : k < 80) : f_Or_read_23 (N + 1) (nI k) (oW A B C D n j) P = oc (f_Or_expect (nI 59) (oW A B C D n j) P) (fun q_53 => oc (f_Or_readOrder q_53 P) (fun q_58 => f_Or_read_23 N (nI (k + 1)) q_58 P)) := by
  have hl : f_Pd_length P = some (nI m) := by
    unfold f_Pd_length
    rw [h.1]
  have e59 : (59 : Int32) = nI 59 := rfl
  rw [e_Or_read_23, k80, ob_lef hk (by omega), ob_t (show (oW A B C D n j).2.2.2.2.2.2 = (-6 : Int32) from rfl), hl, oc_s, ob_f (show ¬ nI m ≤ (oW A B C D n j).2.2.2.2.2.1 from nI_ge hj (by omega)), e59, kk1, i_add]
theorem rd_bad {A B C D : Nat → Int32} {n j k N : Nat} (h : PD P M.2.2.2.2.2.2.1 M.2.2.2.2.2.2.2.1 m) (hm : m ≤ 80) (hj : j < m) (hk : k < 80) (h59 : ¬ M.2.2.2.2.2.2.1 j = nI 59) : f_Or_read_23 (N + 2) (nI k) (oW A B C D n j) P = some (oE A B C D n j j) := by
  rw [rd_step h hm hj hk]
  obtain ⟨-, e2⟩ := expe2 (A := A) (B := B) (C := C) (D := D) (n := n) (i := j) (q := 59) h hm (by omega) (by omega) (by omega)
  obtain ⟨x1, -⟩ := e2 (fun z => h59 z.2)
  rw [x1, oc_s, f_ord h hm (by omega) (by omega), oc_s, rd_flt (e := j) (by omega) rfl]
theorem dig59 {T : Nat → Int32} {m e : Nat} (h : dT T m e) : ¬ T e = nI 59 := by
  obtain ⟨-, d, d1, d2⟩ := h
  rw [d2]
  intro q
  have := i_inj (by omega) (by omega) q
  omega
theorem ORD_cg {m i j : Nat} {c a1 a2 a3 c' b1 b2 b3 : Int32} (h : ORD M m i c a1 a2 a3 j) (e0 : c' = c) (e1 : b1 = a1) (e2 : b2 = a2) (e3 : b3 = a3) : ORD M m i c' b1 b2 b3 j := by
  rw [e0, e1, e2, e3]
  exact h
theorem rd_loop (h : PD P M.2.2.2.2.2.2.1 M.2.2.2.2.2.2.2.1 m) (hm : m ≤ 80) : ∀ (d j k N1 N2 : Nat) (v : V_Or), m ≤ j + d → d + 3 < N1 → d + 3 < N2 → v.2.2.2.2.1 = nI (k + 1) → v.2.2.2.2.2.1 = nI j → v.2.2.2.2.2.2 = (-6 : Int32) → k + 1 ≤ j → j ≤ m →
    ∃ v' a j', f_Or_read_23 N1 (nI k) v P = some v' ∧ oc (f_Md_taken 59 59 (mP M j)) (fun q_28 => ob (q_28.1 = (-6 : Int32)) (f_Md_fault_7 N2 (0 : Int32) q_28.2) (f_Md_fault_7 N2 (1 : Int32) q_28.2)) = some (a, mP M j') ∧ v'.2.2.2.2.2.2 = a ∧ (a = (-6 : Int32) → KEPT v v' (k + 1) ∧ ∃ r, v'.2.2.2.2.1 = nI (k + 1 + r) ∧ k + 1 + r ≤ m ∧ REST M m v' r (k + 1) j) := by
  intro d
  induction d with
  | zero =>
    intro j k N1 N2 v hd h1 h2 hc hp hf hk hj
    have hjm : j = m := by omega
    obtain ⟨N1, rfl⟩ : ∃ q, N1 = q + 1 := ⟨N1 - 1, by omega⟩
    obtain ⟨N2, rfl⟩ : ∃ q, N2 = q + 1 := ⟨N2 - 1, by omega⟩
    have hl : f_Pd_length P = some (nI m) := by
      unfold f_Pd_length
      rw [h.1]
    obtain ⟨-, e2⟩ := expe2 (A := v.1) (B := v.1) (C := v.1) (D := v.1) (n := 0) (i := j) (q := 59) h hm (by omega) (by omega) (by omega)
    obtain ⟨-, x2⟩ := e2 (fun z => by have := z.1; omega)
    have e59 : (59 : Int32) = nI 59 := rfl
    refine ⟨v, -6, j, ?_, ?_, hf, fun _ => ⟨fun t _ => ⟨rfl, rfl, rfl, rfl⟩, 0, hc, by omega, hjm⟩⟩
    · rw [e_Or_read_23, k80, ob_lef (by omega) (by omega), ob_t hf, hl, oc_s, hp, ob_let (by omega) (by omega)]
    · rw [e59, x2, oc_s, ob_rfl, e_Md_fault_7, ob_rfl]
      exact ob_t (by rw [h.2.1]; exact nI_le (by omega) (by omega))
  | succ d ih =>
    intro j k N1 N2 v hd h1 h2 hc hp hf hk hj
    by_cases hjm : m ≤ j
    · exact ih j k N1 N2 v (by omega) (by omega) (by omega) hc hp hf hk hj
    obtain ⟨N1, rfl⟩ : ∃ q, N1 = q + 2 := ⟨N1 - 2, by omega⟩
    obtain ⟨N2, rfl⟩ : ∃ q, N2 = q + 1 := ⟨N2 - 1, by omega⟩
    have hv := v_eta hc hp hf
    rw [hv]
    obtain ⟨e1, e2⟩ := expe2 (A := v.1) (B := v.2.1) (C := v.2.2.1) (D := v.2.2.2.1) (n := k + 1) (i := j) (q := 59) h hm (by omega) (by omega) (by omega)
    have e59 : (59 : Int32) = nI 59 := rfl
    by_cases z : M.2.2.2.2.2.2.1 j = nI 59
    rotate_left
    · obtain ⟨-, x2⟩ := e2 (fun y => z y.2)
      refine ⟨_, nI j, j, rd_bad h hm (by omega) (by omega) z, ?_, rfl, fun q => absurd q (m6_ne j (by omega))⟩
      rw [e59, x2, oc_s, ob_rfl, e_Md_fault_7, ob_rfl]
      exact ob_f (by rw [h.2.1]; exact nI_ge (by omega) (by omega))
    obtain ⟨x1, x2⟩ := e1 ⟨by omega, z⟩
    have x2' : f_Md_taken (nI 59) (nI 59) (mP M j) = some (0, mP M (j + 1)) := x2 M.1
    obtain ⟨v1, y1, y2⟩ := r_order (A := v.1) (B := v.2.1) (C := v.2.2.1) (D := v.2.2.2.1) (n := k + 1) (i := j + 1) h hm (by omega) (by omega)
    have eC : f_Or_read_23 (N1 + 2) (nI k) (oW v.1 v.2.1 v.2.2.1 v.2.2.2.1 (k + 1) j) P = f_Or_read_23 (N1 + 1) (nI (k + 1)) v1 P := by
      rw [rd_step h hm (by omega) (by omega), x1, oc_s, y1, oc_s]
    have eM : oc (f_Md_taken 59 59 (mP M j)) (fun q_28 => ob (q_28.1 = (-6 : Int32)) (f_Md_fault_7 (N2 + 1) (0 : Int32) q_28.2) (f_Md_fault_7 (N2 + 1) (1 : Int32) q_28.2)) = oc (f_Md_readOrder (mP M (j + 1))) (fun q_12 => ob (q_12.1 = 0) (some (q_12.2.2.2.2.2.2.2.2.2, q_12.2)) (oc (f_Md_taken (59 : Int32) (59 : Int32) q_12.2) (fun q_28 => ob (q_28.1 = (-6 : Int32)) (f_Md_fault_7 N2 (0 : Int32) q_28.2) (f_Md_fault_7 N2 (1 : Int32) q_28.2)))) := by
      rw [e59, x2', oc_s, ob_f dm06, e_Md_fault_7, ob_f d10]
      rfl
    rw [eC, eM]
    rcases y2 with ⟨j2, g1, g2, g3, g4, g5, g6⟩ | ⟨e, g0, g1, g2⟩
    · obtain ⟨v', a, j', t1, t2, t3, t4⟩ := ih j2 (k + 1) (N1 + 1) N2 v1 (by have := g6.2.1; omega) (by omega) (by omega) g3 g4 g5 (by have := g6.2.1; omega) g6.2.2.1
      refine ⟨v', a, j', t1, ?_, t3, fun q => ?_⟩
      · rw [g1, oc_s, ob_f d10]
        exact t2
      · obtain ⟨u1, r, u2, u3, u4⟩ := t4 q
        refine ⟨fun t ht => ?_, r + 1, ?_, by omega, by omega, z, j2, ?_, u4⟩
        · obtain ⟨a1, a2, a3, a4⟩ := u1 t (by omega)
          obtain ⟨b1, b2, b3, b4⟩ := g2 t ht
          exact ⟨a1.trans b1, a2.trans b2, a3.trans b3, a4.trans b4⟩
        · rw [u2]
          congr 1
          omega
        · obtain ⟨a1, a2, a3, a4⟩ := u1 (k + 1) (by omega)
          exact ORD_cg g6 a1 a2 a3 a4
    · rcases g2 with g2 | ⟨g2, g3, g4, g5, g6⟩
      · refine ⟨v1, nI e, e, rd_flt g0 g2, ?_, g2, fun q => absurd q (m6_ne e g0)⟩
        rw [g1, oc_s, ob_rfl]
      · have hv1 := v_eta g3 g4 g2
        obtain ⟨N1, rfl⟩ : ∃ q, N1 = q + 1 := ⟨N1 - 1, by omega⟩
        rw [hv1]
        refine ⟨_, nI e, e, rd_bad h hm g5 (by omega) (dig59 g6), ?_, rfl, fun q => absurd q (m6_ne e g0)⟩
        rw [g1, oc_s, ob_rfl]
theorem r_read (h : PD P M.2.2.2.2.2.2.1 M.2.2.2.2.2.2.2.1 m) (hm : m ≤ 80) (v : V_Or) : ∃ v' a j', f_Or_read v P = some v' ∧ f_Md_fault M = some (a, mP M j') ∧ v'.2.2.2.2.2.2 = a ∧ (a = (-6 : Int32) → ∃ r j, v'.2.2.2.2.1 = nI (r + 1) ∧ r + 1 ≤ m ∧ ORD M m 0 (v'.1 0) (v'.2.1 0) (v'.2.2.1 0) (v'.2.2.2.1 0) j ∧ REST M m v' r 1 j) := by
  obtain ⟨v1, y1, y2⟩ := r_order (A := v.1) (B := v.2.1) (C := v.2.2.1) (D := v.2.2.2.1) (n := 0) (i := 0) h hm (by omega) (by omega)
  have hFU : FU = 19998 + 2 := rfl
  have eC : f_Or_read v P = f_Or_read_23 FU (nI 0) v1 P := by
    unfold f_Or_read
    have y1' : f_Or_readOrder (v.1, v.2.1, v.2.2.1, v.2.2.2.1, (0 : Int32), (0 : Int32), (-6 : Int32)) P = some v1 := y1
    rw [y1', oc_s]
    rfl
  have eM : f_Md_fault M = oc (f_Md_readOrder (mP M 0)) (fun q_12 => ob (q_12.1 = 0) (some (q_12.2.2.2.2.2.2.2.2.2, q_12.2)) (oc (f_Md_taken (59 : Int32) (59 : Int32) q_12.2) (fun q_28 => ob (q_28.1 = (-6 : Int32)) (f_Md_fault_7 19999 (0 : Int32) q_28.2) (f_Md_fault_7 19999 (1 : Int32) q_28.2)))) := by
    unfold f_Md_fault
    rw [show FU = 19999 + 1 from rfl, e_Md_fault_7, ob_f d10]
    rfl
  rw [eC, eM]
  rcases y2 with ⟨j2, g1, g2, g3, g4, g5, g6⟩ | ⟨e, g0, g1, g2⟩
  · obtain ⟨v', a, j', t1, t2, t3, t4⟩ := rd_loop h hm m j2 0 FU 19999 v1 (by omega) (by unfold FU; omega) (by omega) g3 g4 g5 (by have := g6.2.1; omega) g6.2.2.1
    refine ⟨v', a, j', t1, ?_, t3, fun q => ?_⟩
    · rw [g1, oc_s, ob_f d10]
      exact t2
    · obtain ⟨u1, r, u2, u3, u4⟩ := t4 q
      obtain ⟨a1, a2, a3, a4⟩ := u1 0 (by omega)
      refine ⟨r, j2, ?_, by omega, ORD_cg g6 a1 a2 a3 a4, u4⟩
      rw [u2]
      congr 1
      omega
  · rcases g2 with g2 | ⟨g2, g3, g4, g5, g6⟩
    · refine ⟨v1, nI e, e, rd_flt g0 g2, ?_, g2, fun q => absurd q (m6_ne e g0)⟩
      rw [g1, oc_s, ob_rfl]
    · have hv1 := v_eta g3 g4 g2
      rw [hv1, hFU]
      refine ⟨_, nI e, e, rd_bad h hm g5 (by omega) (dig59 g6), ?_, rfl, fun q => absurd q (m6_ne e g0)⟩
      rw [g1, oc_s, ob_rfl]
end RR

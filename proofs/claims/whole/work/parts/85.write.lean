/-! ===== PURE 36: the order that writes; every order ===== -/
theorem dm06 : ¬ (0 : Int32) = (-6 : Int32) := by decide
section OS
variable {P : V_Pd} {M : V_Md} {m i n : Nat} {A B C D : Nat → Int32}
theorem keep4 {v v' : V_Or} {n : Nat} (h1 : ∀ t, t < n → v'.1 t = v.1 t) (h2 : ∀ t, t < n → v'.2.1 t = v.2.1 t) (h3 : ∀ t, t < n → v'.2.2.1 t = v.2.2.1 t) (h4 : ∀ t, t < n → v'.2.2.2.1 t = v.2.2.2.1 t) : KEPT v v' n := fun t ht => ⟨h1 t ht, h2 t ht, h3 t ht, h4 t ht⟩
theorem upk (f : Nat → Int32) (n : Nat) (x : Int32) : ∀ t, t < n → upd f n x t = f t := fun t ht => up_n _ _ (by omega)
theorem r_119 (h : PD P M.2.2.2.2.2.2.1 M.2.2.2.2.2.2.2.1 m) (hm : m ≤ 80) (hn : n < 80) (him : i < m) (q : M.2.2.2.2.2.2.1 i = 119) : RDO P M m i n A B C D := by
  have hc := (p_at h hm (show i < 2147483648 by omega)).1 him
  have hs' : f_Md_sign (mP M i) = some (M.2.2.2.2.2.2.1 i) := (m_sign (M := mP M i) h.2.1 rfl hm (show i < 2147483648 by omega)).1 him
  rw [q] at hc hs'
  have eC := oR_119 (A := A) (B := B) (C := C) (D := D) hc hn
  have eM := mO_num hs' (Or.inr (Or.inr (Or.inr (Or.inr rfl))))
  obtain ⟨n1, n2⟩ := num2 (A := upd A n 119) (B := B) (C := C) (D := D) (n := n) (i := i + 1) h hm (by omega)
  by_cases z1 : dT M.2.2.2.2.2.2.1 m (i + 1)
  rotate_left
  · obtain ⟨y1, y2⟩ := n1 z1
    refine ⟨_, eC.trans (wA_no h hm (by omega) hn (by omega) y1), Or.inr ⟨i + 1, by omega, ?_, Or.inl rfl⟩⟩
    rw [eM, y2, oc_s, ob_rfl, r118_0]
  obtain ⟨l, k, y1, y2, y3, y4, y5⟩ := n2 z1
  have y5' : f_Md_number (mP M (i + 1)) = ob (dT M.2.2.2.2.2.2.1 m k) (some (-6, mP M k)) (some (nI l, mP M k)) := y5 M.1
  rw [wA_ok hn y3] at eC
  obtain ⟨e1, e2⟩ := expe2 (A := upd A n 119) (B := upd B n (nI l)) (C := C) (D := D) (n := n) (i := k) (q := 62) h hm (by omega) (by omega) (by omega)
  have e62 : (62 : Int32) = nI 62 := rfl
  have e61 : (61 : Int32) = nI 61 := rfl
  rw [e62] at eC
  by_cases z2 : k < m ∧ M.2.2.2.2.2.2.1 k = nI 62
  rotate_left
  · obtain ⟨x1, x2⟩ := e2 z2
    refine ⟨oE (upd A n 119) (upd B n (nI l)) (upd C n 0) (upd D n 0) (n + 1) k k, ?_, Or.inr ⟨k, by omega, ?_, Or.inl rfl⟩⟩
    · rw [eC, x1, oc_s, f_wB h hm (by omega) hn (by omega)]
    · rw [eM, y5']
      by_cases z3 : dT M.2.2.2.2.2.2.1 m k
      · rw [ob_t z3, oc_s, ob_rfl, r118_0]
      · rw [ob_f z3, oc_s, ob_f (m6_ne l (by omega)), r118_w, e62, x2, oc_s, ob_rfl]
  obtain ⟨x1, x2⟩ := e1 z2
  have x2' : f_Md_taken (nI 62) (nI 62) (mP M k) = some (0, mP M (k + 1)) := x2 M.1
  have nd : ¬ dT M.2.2.2.2.2.2.1 m k := by
    rintro ⟨-, d, d1, d2⟩
    rw [z2.2] at d2
    have := i_inj (by omega) (by omega) d2
    omega
  rw [x1, oc_s] at eC
  have hkm : k < m := z2.1
  have eM1 : f_Md_readOrder (mP M i) = (oc (f_Md_taken (48 : Int32) (55 : Int32) (mP M (k + 1))) (fun q_147 => ob (q_147.1 = (-6 : Int32)) (some ((0 : Int32), q_147.2)) (oc (f_Md_taken (61 : Int32) (61 : Int32) q_147.2) (fun q_160 => ob (q_160.1 = (-6 : Int32)) (some ((0 : Int32), q_160.2)) (oc (f_Md_number q_160.2) (fun q_169 => ob (q_169.1 = (-6 : Int32)) (some ((0 : Int32), q_169.2)) (some ((1 : Int32), q_169.2)))))))) := by
    rw [eM, y5', ob_f nd, oc_s, ob_f (m6_ne l (by omega)), r118_w, e62, x2', oc_s, ob_f dm06]
  rcases page2 (A := upd A n 119) (B := upd B n (nI l)) (C := C) (D := D) (n := n) (i := k + 1) h hm (by omega) with ⟨p, p1, p2, p3, p4⟩ | ⟨p1, p2⟩
  rotate_left
  · refine ⟨_, eC.trans (wB_no hn (by omega) p1), Or.inr ⟨k + 1, by omega, ?_, Or.inl rfl⟩⟩
    rw [eM1, p2, oc_s, ob_rfl]
  have p4' : f_Md_taken 48 55 (mP M (k + 1)) = some (nI p, mP M (k + 2)) := p4 M.1
  rw [wB_ok hn p3, e61] at eC
  rw [p4', oc_s, ob_f (m6_ne p (by omega)), e61] at eM1
  obtain ⟨g1, g2⟩ := expe2 (A := upd A n 119) (B := upd B n (nI l)) (C := upd C n (nI p)) (D := D) (n := n) (i := k + 2) (q := 61) h hm (by omega) (by omega) (by omega)
  by_cases z4 : k + 2 < m ∧ M.2.2.2.2.2.2.1 (k + 2) = nI 61
  rotate_left
  · obtain ⟨x1, x2⟩ := g2 z4
    refine ⟨oE (upd A n 119) (upd B n (nI l)) (upd C n (nI p)) (upd D n 0) (n + 1) (k + 2) (k + 2), ?_, Or.inr ⟨k + 2, by omega, ?_, Or.inl rfl⟩⟩
    · refine eC.trans ?_
      rw [x1, oc_s, f_wC hn (by omega)]
    · rw [eM1, x2, oc_s, ob_rfl]
  obtain ⟨x3, x4⟩ := g1 z4
  have x4' : f_Md_taken (nI 61) (nI 61) (mP M (k + 2)) = some (0, mP M (k + 3)) := x4 M.1
  have eC2 : f_Or_readOrder (oW A B C D n i) P = wC (oW (upd A n 119) (upd B n (nI l)) (upd C n (nI p)) D n (k + 3)) P := by
    refine eC.trans ?_
    rw [x3, oc_s]
  rw [x4', oc_s, ob_f dm06] at eM1
  obtain ⟨n3, n4⟩ := num2 (A := upd A n 119) (B := upd B n (nI l)) (C := upd C n (nI p)) (D := D) (n := n) (i := k + 3) h hm (by omega)
  by_cases z5 : dT M.2.2.2.2.2.2.1 m (k + 3)
  rotate_left
  · obtain ⟨y1, y2⟩ := n3 z5
    refine ⟨_, eC2.trans (wC_no hn y1), Or.inr ⟨k + 3, by omega, ?_, Or.inl rfl⟩⟩
    rw [eM1, y2, oc_s, ob_rfl]
  obtain ⟨l2, j, u1, u2, u3, u4, u5⟩ := n4 z5
  have u5' : f_Md_number (mP M (k + 3)) = ob (dT M.2.2.2.2.2.2.1 m j) (some (-6, mP M j)) (some (nI l2, mP M j)) := u5 M.1
  refine ⟨_, eC2.trans (wC_ok hn u3), ?_⟩
  by_cases z6 : dT M.2.2.2.2.2.2.1 m j
  · refine Or.inr ⟨j, by omega, ?_, Or.inr ⟨rfl, rfl, rfl, z6.1, z6⟩⟩
    rw [eM1, u5', ob_t z6, oc_s, ob_rfl]
  · refine Or.inl ⟨j, ?_, keep4 (upk _ _ _) (upk _ _ _) (upk _ _ _) (upk _ _ _), rfl, rfl, rfl, him, by omega, u2, ?_, Or.inr (Or.inr (Or.inr ⟨up_s _ _ _, k, fun R => ⟨?_, ?_, ?_⟩⟩))⟩
    · rw [eM1, u5', ob_f z6, oc_s, ob_f (m6_ne l2 (by omega))]
    · exact q.trans (up_s _ _ _).symm
    · show _ = some (upd B n (nI l) n, _)
      rw [y5 R, ob_f nd, up_s]
    · show _ = some (upd C n (nI p) n, _)
      rw [p4 R, up_s]
    · show _ = some (upd D n (nI l2) n, _)
      rw [u5 R, ob_f z6, up_s]
theorem r_112 (h : PD P M.2.2.2.2.2.2.1 M.2.2.2.2.2.2.2.1 m) (hm : m ≤ 80) (hn : n < 80) (him : i < m) (q : M.2.2.2.2.2.2.1 i = 112) : RDO P M m i n A B C D := by
  have hc := (p_at h hm (show i < 2147483648 by omega)).1 him
  have hs' : f_Md_sign (mP M i) = some (M.2.2.2.2.2.2.1 i) := (m_sign (M := mP M i) h.2.1 rfl hm (show i < 2147483648 by omega)).1 him
  rw [q] at hc hs'
  have eC := oR_112 (A := A) (B := B) (C := C) (D := D) hc hn
  have eM := mO_p hs'
  rcases page2 (A := upd A n 112) (B := B) (C := C) (D := D) (n := n) (i := i + 1) h hm (by omega) with ⟨p, p1, p2, p3, p4⟩ | ⟨p1, p2⟩
  rotate_left
  · refine ⟨_, eC.trans (wP_no hn p1), Or.inr ⟨i + 1, by omega, ?_, Or.inl rfl⟩⟩
    rw [eM, p2, oc_s, ob_rfl]
  have p4' : f_Md_taken 48 55 (mP M (i + 1)) = some (nI p, mP M (i + 2)) := p4 M.1
  refine ⟨_, eC.trans (wP_ok hn p3), Or.inl ⟨i + 2, ?_, keep4 (upk _ _ _) (fun _ _ => rfl) (upk _ _ _) (fun _ _ => rfl), rfl, rfl, rfl, him, by omega, by omega, ?_, Or.inr (Or.inl ⟨up_s _ _ _, fun R => ?_⟩)⟩⟩
  · rw [eM, p4', oc_s, ob_f (m6_ne p (by omega))]
  · exact q.trans (up_s _ _ _).symm
  · show _ = some (upd C n (nI p) n, _)
    rw [p4 R, up_s]
theorem r_nums {c : Int32} (h : PD P M.2.2.2.2.2.2.1 M.2.2.2.2.2.2.2.1 m) (hm : m ≤ 80) (hn : n < 80) (him : i < m) (q : M.2.2.2.2.2.2.1 i = c) (hk : c = 102 ∨ c = 109 ∨ c = 115 ∨ c = 116) : RDO P M m i n A B C D := by
  have hc := (p_at h hm (show i < 2147483648 by omega)).1 him
  have hs' : f_Md_sign (mP M i) = some (M.2.2.2.2.2.2.1 i) := (m_sign (M := mP M i) h.2.1 rfl hm (show i < 2147483648 by omega)).1 him
  rw [q] at hc hs'
  have eC := oR_num (A := A) (B := B) (C := C) (D := D) hc hn hk
  have eM := mO_num hs' (by rcases hk with k | k | k | k <;> simp [k])
  have n119 : ¬ c = 119 := by rcases hk with rfl | rfl | rfl | rfl <;> decide
  obtain ⟨n1, n2⟩ := num2 (A := upd A n c) (B := B) (C := C) (D := D) (n := n) (i := i + 1) h hm (by omega)
  by_cases z1 : dT M.2.2.2.2.2.2.1 m (i + 1)
  rotate_left
  · obtain ⟨y1, y2⟩ := n1 z1
    refine ⟨_, eC.trans (w2_no hn y1), Or.inr ⟨i + 1, by omega, ?_, Or.inl rfl⟩⟩
    rw [eM, y2, oc_s, ob_rfl, r118_0]
  obtain ⟨l, k, y1, y2, y3, y4, y5⟩ := n2 z1
  have y5' : f_Md_number (mP M (i + 1)) = ob (dT M.2.2.2.2.2.2.1 m k) (some (-6, mP M k)) (some (nI l, mP M k)) := y5 M.1
  refine ⟨_, eC.trans (w2_ok hn y3), ?_⟩
  by_cases z6 : dT M.2.2.2.2.2.2.1 m k
  · refine Or.inr ⟨k, by omega, ?_, Or.inr ⟨rfl, rfl, rfl, z6.1, z6⟩⟩
    rw [eM, y5', ob_t z6, oc_s, ob_rfl, r118_0]
  · refine Or.inl ⟨k, ?_, keep4 (upk _ _ _) (upk _ _ _) (fun _ _ => rfl) (fun _ _ => rfl), rfl, rfl, rfl, him, by omega, y2, ?_, Or.inr (Or.inr (Or.inl ⟨?_, ⟨l, y4, up_s _ _ _⟩, fun R => ?_⟩))⟩
    · rw [eM, y5', ob_f z6, oc_s, ob_f (m6_ne l (by omega)), r118_1 n119]
    · exact q.trans (up_s _ _ _).symm
    · show upd A n c n = 102 ∨ upd A n c n = 109 ∨ upd A n c n = 115 ∨ upd A n c n = 116
      rw [up_s]
      exact hk
    · show _ = some (upd B n (nI l) n, _)
      rw [y5 R, ob_f z6, up_s]
theorem r_order (h : PD P M.2.2.2.2.2.2.1 M.2.2.2.2.2.2.2.1 m) (hm : m ≤ 80) (hn : n < 80) (hi : i < 2147483648) : RDO P M m i n A B C D := by
  by_cases him : i < m
  · by_cases q1 : M.2.2.2.2.2.2.1 i = 119
    · exact r_119 h hm hn him q1
    by_cases q2 : M.2.2.2.2.2.2.1 i = 112
    · exact r_112 h hm hn him q2
    by_cases q3 : M.2.2.2.2.2.2.1 i = 102
    · exact r_nums h hm hn him q3 (Or.inl rfl)
    by_cases q4 : M.2.2.2.2.2.2.1 i = 109
    · exact r_nums h hm hn him q4 (Or.inr (Or.inl rfl))
    by_cases q5 : M.2.2.2.2.2.2.1 i = 115
    · exact r_nums h hm hn him q5 (Or.inr (Or.inr (Or.inl rfl)))
    by_cases q6 : M.2.2.2.2.2.2.1 i = 116
    · exact r_nums h hm hn him q6 (Or.inr (Or.inr (Or.inr rfl)))
    have hc := (p_at h hm hi).1 him
    have hs' : f_Md_sign (mP M i) = some (M.2.2.2.2.2.2.1 i) := (m_sign (M := mP M i) h.2.1 rfl hm hi).1 him
    by_cases q7 : M.2.2.2.2.2.2.1 i = 98
    · rw [q7] at hc hs'
      refine ⟨_, oR_98 hc hn, Or.inl ⟨i + 1, mO_bx hs' (Or.inl rfl), keep4 (upk _ _ _) (fun _ _ => rfl) (fun _ _ => rfl) (fun _ _ => rfl), rfl, rfl, rfl, him, by omega, by omega, ?_, Or.inl ⟨Or.inl (up_s _ _ _), rfl⟩⟩⟩
      exact q7.trans (up_s _ _ _).symm
    by_cases q8 : M.2.2.2.2.2.2.1 i = 120
    · rw [q8] at hc hs'
      refine ⟨_, oR_120 hc hn, Or.inl ⟨i + 1, mO_bx hs' (Or.inr rfl), keep4 (upk _ _ _) (fun _ _ => rfl) (fun _ _ => rfl) (fun _ _ => rfl), rfl, rfl, rfl, him, by omega, by omega, ?_, Or.inl ⟨Or.inr (up_s _ _ _), rfl⟩⟩⟩
      exact q8.trans (up_s _ _ _).symm
    exact ⟨_, oR_no hc hn q7 q8 q2 q1 q3 q4 q5 q6, Or.inr ⟨i, hi, mO_no hs' q7 q8 q2 q1 q3 q4 q5 q6, Or.inl rfl⟩⟩
  · have hc := (p_at h hm hi).2 (by omega)
    have hs' : f_Md_sign (mP M i) = some (-6) := (m_sign (M := mP M i) h.2.1 rfl hm hi).2 (by show m ≤ i; omega)
    exact ⟨_, oR_no hc hn (by decide) (by decide) (by decide) (by decide) (by decide) (by decide) (by decide) (by decide), Or.inr ⟨i, hi, mO_no hs' (by decide) (by decide) (by decide) (by decide) (by decide) (by decide) (by decide) (by decide), Or.inl rfl⟩⟩
end OS

/-! ===== PURE 19: readers ===== -/
theorem ob_ex {α : Type _} {P : Prop} {a : α} {x : Option α} (h : ∃ z, x = some z) : ∃ z, ob P (some a) x = some z := by
  by_cases q : P
  · exact ⟨a, ob_t q⟩
  · rw [ob_f q]
    exact h
theorem z_add (p : Nat) : (0 : Int32) + nI p = nI p := by rw [k0, i_add, Nat.zero_add]
theorem c_asn : f_Fd_asNumber 0 = some 0 ∧ f_Fd_asNumber 1 = some 1 := by
  unfold f_Fd_asNumber
  rw [ob_rfl, ob_f d10]
  exact ⟨rfl, rfl⟩
theorem pg_read {v : V_St} {f : Nat → Int32} {n s : Nat} (I : INV v n s) (R : REL v f n s) {M : V_Md} (hM : M.1 = f) {p : Nat} (hp : p < 8) : ∃ b2 x3 x4 b5 x6 : Int32, f_Pg_isInHand (nI p) v.1 = some b2 ∧ f_Fd_asNumber b2 = some b2 ∧ f_Pg_valueInHand (nI p) v.1 = some x3 ∧ f_Pg_markInHand (nI p) v.1 = some x4 ∧ f_Pg_isDirty (nI p) v.1 = some b5 ∧ f_Fd_asNumber b5 = some b5 ∧ ob (v.2.2.2.1 = 0) (oc (f_Wk_holderOf (nI p) v.2.2.1) (fun q_129 => some q_129)) (some (-6 : Int32)) = some x6 ∧
    f (16 + p) = b2 ∧ ((b2 = 1 ∧ f (24 + p) = x3 ∧ f (32 + p) = x4) ∨ (b2 = 0 ∧ x3 = -6 ∧ x4 = -6)) ∧ f_Md_isDirty (nI p) M = some b5 ∧ (b5 = 0 ∨ b5 = 1) ∧ ob (f 59 = 1) (some (-6 : Int32)) (oc (f_Md_holder (nI p) f) (fun q_174 => some q_174)) = some x6 := by
  obtain ⟨⟨w1, w2, w3⟩, i2, i3, i4, i5, i6, i7, i8, i9⟩ := I
  obtain ⟨⟨l1, l2, l3, l4⟩, r2, r3, r4, r5, r6, r7, r8, r9, r10⟩ := R
  have h300 := VL_300 w2
  have h16 := nwk_16 n w2
  obtain ⟨a, b, c, d⟩ := r2 p hp
  have hR := RL_R w2 ⟨l1, l2, l3, l4⟩
  have hx6 : ∃ x6 : Int32, ob (v.2.2.2.1 = 0) (oc (f_Wk_holderOf (nI p) v.2.2.1) (fun q_129 => some q_129)) (some (-6 : Int32)) = some x6 ∧ ob (f 59 = 1) (some (-6 : Int32)) (oc (f_Md_holder (nI p) f) (fun q_174 => some q_174)) = some x6 := by
    by_cases q : mdg v = 0
    · refine ⟨fw (hol (lgD v.2.1) n p) 0 (nwk (lgD v.2.1) n), ?_, ?_⟩
      · rw [ob_t (show v.2.2.2.1 = 0 from q), c_holder w3 w2 hp, oc_s]
      · have e1 : fw (hol (lgR f) n p) 0 (nwk (lgR f) n) = fw (hol (lgD v.2.1) n p) 0 (nwk (lgD v.2.1) n) := by
          rw [← nwk_cg n l1]
          refine fw_cg _ _ (fun i a b => ?_)
          unfold hol
          rw [opn_cg l1, pgs_cg (nI i) n l1]
        rw [ob_f (show ¬ f 59 = 1 by rw [r4, q]; exact d01), r_holder hR hp, oc_s, e1]
    · exact ⟨-6, ob_f q, ob_t (by rw [r4]; exact i5.resolve_left q)⟩
  obtain ⟨x6, y1, y2⟩ := hx6
  have eD : f_Md_isDirty (nI p) M = ob (f (16 + p) = 1) (ob (f (32 + p) = f (8 + p)) (some 0) (some 1)) (some 0) := by
    unfold f_Md_isDirty
    rw [k16, i_add, og_in (by omega) (by omega), i_cl (by omega), k32, i_add, og_in (by omega) (by omega), k8, i_add, og_in (by omega) (by omega), i_cl (by omega), i_cl (by omega), hM]
  by_cases q : hnd v.1 p
  · obtain ⟨c1, c2, c3⟩ := c q
    by_cases q2 : v.1.2.2.2.1 p = v.1.2.1 p
    · exact ⟨1, _, _, 0, x6, c_inHand hp q, c_asn.2, c_valH hp q, c_marH hp q, c_dirtyN hp (fun z => z.2 q2), c_asn.1, y1, c1, Or.inl ⟨rfl, c2, c3⟩, by rw [eD, ob_t c1, ob_t (by rw [c3, b]; exact q2)], Or.inl rfl, y2⟩
    · exact ⟨1, _, _, 1, x6, c_inHand hp q, c_asn.2, c_valH hp q, c_marH hp q, c_dirty hp ⟨q, q2⟩, c_asn.2, y1, c1, Or.inl ⟨rfl, c2, c3⟩, by rw [eD, ob_t c1, ob_f (by rw [c3, b]; exact q2)], Or.inr rfl, y2⟩
  · exact ⟨0, -6, -6, 0, x6, c_inHandN hp q, c_asn.1, c_valHN hp q, c_marHN hp q, c_dirtyN hp (fun z => q z.1), c_asn.1, y1, d q, Or.inr ⟨rfl, rfl, rfl⟩, by rw [eD, ob_f (by rw [d q]; exact d01)], Or.inl rfl, y2⟩
theorem s_ofPage {v : V_St} {f : Nat → Int32} {n s : Nat} (I : INV v n s) (R : REL v f n s) {M : V_Md} (hM : M.1 = f) (x y : Int32) : ∃ a, f_St_aboutPage x y v = some a ∧ f_Md_ofPage x y M = some a := by
  rcases pg_arg x with ⟨p, hp, rfl⟩ | ⟨a1, a2⟩
  rotate_left
  · refine ⟨-1, ?_, ?_⟩
    · unfold f_St_aboutPage; rw [a1, oc_s, ob_rfl]
    · unfold f_Md_ofPage; rw [a2, oc_s, ob_rfl]
  obtain ⟨b2, x3, x4, b5, x6, c1, c2, c3, c4, c5, c6, c7, c8, c9, c10, c11, c12⟩ := pg_read I R hM hp
  obtain ⟨pa, pb, -, -⟩ := R.2.1 p hp
  have eC : f_St_aboutPage (nI p) y v = ob (y = 0) (some (v.1.1 p)) (ob (y = 1) (some (v.1.2.1 p)) (ob (y = 2) (some b2) (ob (y = 3) (some x3) (ob (y = 4) (some x4) (ob (y = 5) (some b5) (ob (y = 6) (some x6) (some (-2)))))))) := by
    unfold f_St_aboutPage
    rw [c_isPage hp, oc_s, ob_f d10, c_valS hp, oc_s, c_marS hp, oc_s, c1, oc_s, c2, oc_s, c3, oc_s, c4, oc_s, c5, oc_s, c6, oc_s, c7]
  have e7 : ∀ s0 : Int32, f_Md_ofPage_27 (nI p) y s0 M = ob (y = 0) (some (v.1.1 p)) (ob (y = 1) (some (v.1.2.1 p)) (ob (y = 2) (some b2) (ob (y = 3) (ob (s0 = 0) (some (-6)) (some (f (24 + p)))) (ob (y = 4) (ob (s0 = 0) (some (-6)) (some (f (32 + p)))) (ob (y = 5) (some b5) (ob (y = 6) (some x6) (some (-2)))))))) := by
    intro s0
    have hb5 : ob (b5 = 0) (some (0 : Int32)) (some 1) = some b5 := by
      rcases c11 with h | h
      · rw [h, ob_rfl]
      · rw [h, ob_f d10]
    unfold f_Md_ofPage_27
    rw [z_add, og_in (by omega) (by omega), i_cl (by omega), k8, i_add, og_in (by omega) (by omega), i_cl (by omega), k16, i_add, og_in (by omega) (by omega), i_cl (by omega), k24, i_add, og_in (by omega) (by omega), i_cl (by omega), k32, i_add, og_in (by omega) (by omega), i_cl (by omega), c10, oc_s, hb5, k59, og_in (by omega) (by omega), i_cl (by omega), hM, pa, pb, c8, c12]
  have eR : f_Md_ofPage (nI p) y M = f_St_aboutPage (nI p) y v := by
    unfold f_Md_ofPage
    rw [r_isPage hp, oc_s, ob_f d10, k16, i_add, og_in (by omega) (by omega), i_cl (by omega), hM, c8, e7, e7, eC]
    rcases c9 with ⟨h1, h2, h3⟩ | ⟨h1, h2, h3⟩
    · rw [ob_t h1, ob_f d10, ob_f d10, h2, h3]
    · rw [ob_f (by rw [h1]; exact d01), ob_rfl, ob_rfl, h2, h3]
  have : ∃ z, f_St_aboutPage (nI p) y v = some z := by
    rw [eC]
    exact ob_ex (ob_ex (ob_ex (ob_ex (ob_ex (ob_ex (ob_ex ⟨_, rfl⟩))))))
  obtain ⟨z, hz⟩ := this
  exact ⟨z, hz, eR.trans hz⟩
/-- works -/
theorem r_count {f : Nat → Int32} {n : Nat} (hn : f 57 = nI n) (h3 : n ≤ 300) {M : V_Md} (hM : M.1 = f) (x : Int32) : f_Md_ofWork_93 FU x 0 1 M = some (nI (cnt (lgR f) x n)) := by
  have key : ∀ j i m, i + j = n → j < m → f_Md_ofWork_93 m x (nI (cnt (lgR f) x i)) (nI (i + 1)) M = some (nI (cnt (lgR f) x n)) := by
    intro j
    induction j with
    | zero =>
      intro i m hi hm
      obtain ⟨m, rfl⟩ : ∃ q, m = q + 1 := ⟨m - 1, by omega⟩
      have : i = n := by omega
      subst this
      rw [e_Md_ofWork_93, k57, og_in (by omega) (by omega), i_cl (by omega), hM, hn, ob_ltt (by omega) (by omega)]
    | succ j ih =>
      intro i m hi hm
      obtain ⟨m, rfl⟩ : ∃ q, m = q + 1 := ⟨m - 1, by omega⟩
      have ih' := ih (i + 1) m (by omega) (by omega)
      rw [e_Md_ofWork_93, k57, og_in (by omega) (by omega), i_cl (by omega), hM, hn, ob_ltf (by omega) (by omega), r_at (by omega), oc_s, kk1, k0, i_add, i_add, i_add, i_add, og_in (by omega) (by omega), i_cl (by omega), Nat.add_zero]
      have e : f (67 + 7 * (i + 1 - 1) + 1) = (lgR f (i + 1)).2.1 := rfl
      rw [e]
      by_cases q : (lgR f (i + 1)).2.1 = x
      · rw [ob_t q]
        rw [cnt_hit q] at ih'
        exact ih'
      · rw [ob_f q]
        rw [cnt_miss q] at ih'
        exact ih'
  exact key n 0 FU (by omega) (by unfold FU; omega)
theorem shut {L : Nat → E7} {n : Nat} {x : Int32} (hV : VL L n) (h1 : 1 ≤ lst L x n) (ho : ¬ opn L x n) : (L (lst L x n)).1 = 3 ∨ (L (lst L x n)).1 = 4 := by
  by_cases a : (L (lst L x n)).1 = 3
  · exact Or.inl a
  · by_cases b : (L (lst L x n)).1 = 4
    · exact Or.inr b
    · exact absurd ⟨h1, a, b⟩ ho
theorem shut_0 {L : Nat → E7} {n : Nat} {x : Int32} (hV : VL L n) (h1 : 1 ≤ lst L x n) (ho : ¬ opn L x n) : pgo L x n = 0 ∧ goo L x n = 0 ∧ ¬ sta L x n = 0 := by
  refine ⟨?_, ?_, fun q => ho ((sta_0 h1).mp q)⟩
  · unfold pgo
    rcases shut hV h1 ho with q | q
    · rw [if_pos q]
    · rw [if_neg (by rw [q]; decide), if_pos q]
  · unfold goo
    rcases shut hV h1 ho with q | q
    · rw [if_pos q]
    · rw [if_neg (by rw [q]; decide), if_pos q]
theorem s_ofWork {v : V_St} {f : Nat → Int32} {n s : Nat} (I : INV v n s) (R : REL v f n s) {M : V_Md} (hM : M.1 = f) (x y : Int32) : ∃ a, f_Wk_about x y v.2.2.1 = some a ∧ f_Md_ofWork x y M = some a := by
  obtain ⟨⟨w1, w2, w3⟩, -⟩ := I
  obtain ⟨hRL, -⟩ := R
  obtain ⟨l1, l2, l3, l4⟩ := id hRL
  have h300 := VL_300 w2
  have h16 := nwk_16 n w2
  have hR := RL_R w2 hRL
  rcases wk_arg w3 h16 l3 x with ⟨w, hw, rfl⟩ | ⟨a1, a2⟩
  rotate_left
  · refine ⟨-1, ?_, ?_⟩
    · unfold f_Wk_about; rw [a1, oc_s, ob_rfl]
    · unfold f_Md_ofWork; rw [hM, a2, oc_s, ob_rfl]
  obtain ⟨g1, g2, g3, g4, g5⟩ := w3.2 w hw
  have hl := wk_has n w2 w hw
  have eC : f_Wk_about (nI w) y v.2.2.1 = ob (y = 0) (some (sta (lgD v.2.1) (nI w) n)) (ob (y = 1) (some (nI (lst (lgD v.2.1) (nI w) n))) (ob (y = 2) (some (nI (cnt (lgD v.2.1) (nI w) n))) (ob (y = 3) (some (pgo (lgD v.2.1) (nI w) n)) (ob (y = 4) (some (nI (goo (lgD v.2.1) (nI w) n))) (some (-2)))))) := by
    unfold f_Wk_about
    rw [c_whas w3 h16 hw, oc_s, ob_f d10, og_in (by omega) (by omega), og_in (by omega) (by omega), og_in (by omega) (by omega), og_in (by omega) (by omega), og_in (by omega) (by omega), i_cl (by omega), g1, g2, g3, g4, g5]
  have eL : lst (lgR f) (nI w) n = lst (lgD v.2.1) (nI w) n := (lst_cg _ n l1).symm
  have eN : cnt (lgR f) (nI w) n = cnt (lgD v.2.1) (nI w) n := (cnt_cg _ n l1).symm
  have eR : f_Md_ofWork (nI w) y M = ob (y = 0) (some (sta (lgD v.2.1) (nI w) n)) (ob (y = 1) (some (nI (lst (lgD v.2.1) (nI w) n))) (ob (y = 2) (some (nI (cnt (lgD v.2.1) (nI w) n))) (ob (y = 3) (some (pgo (lgD v.2.1) (nI w) n)) (ob (y = 4) (some (nI (goo (lgD v.2.1) (nI w) n))) (some (-2)))))) := by
    have e30 : ∀ s0 : Int32, f_Md_ofWork_30 (nI w) y s0 M = ob (y = 0) (some (sta (lgD v.2.1) (nI w) n)) (ob (y = 1) (some (nI (lst (lgD v.2.1) (nI w) n))) (ob (y = 2) (some (nI (cnt (lgD v.2.1) (nI w) n))) (ob (y = 3) (ob (s0 = 0) (some 0) (some (pgs (lgD v.2.1) (nI w) n))) (ob (y = 4) (ob (s0 = 0) (some 0) (oc (f_Md_goesOnWith (nI w) f) (fun q_166 => some q_166))) (some (-2)))))) := by
      intro s0
      unfold f_Md_ofWork_30
      rw [k40, i_add, og_in (by omega) (by omega), i_cl (by omega), hM, r_lastOf l2 h300, oc_s, r_count l2 h300 hM, r_pagesOf l2 h300, oc_s, l4 w hw, eL, eN, ← pgs_cg (nI w) n l1]
    unfold f_Md_ofWork
    rw [hM, r_isWork l3 h16 hw, oc_s, ob_f d10, k40, i_add, og_in (by omega) (by omega), i_cl (by omega), l4 w hw, e30, e30]
    by_cases q : opn (lgD v.2.1) (nI w) n
    · obtain ⟨x1, x2, x3⟩ := opn_goo q
      rw [ob_t x3, x1, x2, ob_f d10, ob_f d10, r_goes hR.1 hR.2.1 ((opn_cg l1).mp q), oc_s, gon_cg l1 q]
    · obtain ⟨x1, x2, x3⟩ := shut_0 w2 hl q
      rw [ob_f x3, x1, x2, ob_rfl, ob_rfl]
      rfl
  have : ∃ z, f_Wk_about (nI w) y v.2.2.1 = some z := by
    rw [eC]
    exact ob_ex (ob_ex (ob_ex (ob_ex (ob_ex ⟨_, rfl⟩))))
  obtain ⟨z, hz⟩ := this
  exact ⟨z, hz, by rw [eR, ← eC]; exact hz⟩

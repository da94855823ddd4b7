/-! ===== PURE 11: steps back side by side; tearing out ===== -/
theorem ga_le (L : Nat → E7) (x : Int32) : ∀ n, ga L x n ≤ n
  | 0 => Nat.le_refl _
  | n + 1 => by
    have := ga_le L x n
    unfold ga
    split <;> omega
theorem ga_cg {L L' : Nat → E7} (x : Int32) : ∀ n, (∀ i, 1 ≤ i → i ≤ n → L i = L' i) → ga L x n = ga L' x n
  | 0, _ => rfl
  | n + 1, h => by
    unfold ga
    rw [h (n + 1) (by omega) (by omega), ga_cg x n (fun i a b => h i a (by omega))]
theorem ga_0 {L : Nat → E7} {x : Int32} {n : Nat} (h : lst L x n = 0) : ga L x n = 0 := by
  rw [ga_lst, h]
  rfl
theorem wrc_hit {L : Nat → E7} {x : Int32} {n : Nat} (h : (L (n + 1)).2.1 = x ∧ (L (n + 1)).1 = 1) : wrc L x (n + 1) = wrc L x n + 1 := by
  show (if _ then _ else _) = _
  rw [if_pos h]
theorem wrc_miss {L : Nat → E7} {x : Int32} {n : Nat} (h : ¬ ((L (n + 1)).2.1 = x ∧ (L (n + 1)).1 = 1)) : wrc L x (n + 1) = wrc L x n := by
  show (if _ then _ else _) = _
  rw [if_neg h]
theorem ga_wrc {L : Nat → E7} {x : Int32} : ∀ n, VL L n → 1 ≤ lst L x n → ga L x n = wrc L x n + 1
  | 0, _, h => by simp [lst] at h
  | n + 1, hV, h => by
    by_cases e : (L (n + 1)).2.1 = x
    · by_cases k0 : (L (n + 1)).1 = 0
      · have hz : lst L x n = 0 := by rw [← e, (vent_0 hV.2 k0).1]; exact wk_new hV.1
        rw [ga_s L x n e (Or.inl k0), ga_0 hz, wrc_miss (fun q => d01 (k0.symm.trans q.2)), (fresh n hz).2.2]
      · have ho := vent_o hV.2 k0
        rw [e] at ho
        have ih := ga_wrc n hV.1 ho.1
        by_cases k1 : (L (n + 1)).1 = 1
        · rw [ga_s L x n e (Or.inr k1), wrc_hit ⟨e, k1⟩, ih]
        · rw [ga_n L x n (fun q => q.2.elim k0 k1), wrc_miss (fun q => k1 q.2), ih]
    · rw [lst_miss e] at h
      rw [ga_n L x n (fun q => e q.1), wrc_miss (fun q => e q.1)]
      exact ga_wrc n hV.1 h
def BK (v : V_St) (f : Nat → Int32) (n s : Nat) : Prop := WFL v n ∧ RL (lgD v.2.1) n f ∧ PGR v.1 f ∧ PGI v.1 n s
theorem PGI_le {g : V_Pg} {n n' s : Nat} (h : PGI g n s) (hn : n ≤ n') : PGI g n' s := fun p hp => by
  obtain ⟨x, y, z⟩ := h p hp
  exact ⟨x, y, fun q => ⟨by obtain ⟨⟨k, z1, z2⟩, -⟩ := z q; exact ⟨k, by omega, z2⟩, (z q).2⟩⟩
theorem PGI_back {L : Nat → E7} {n s : Nat} {x : Int32} {g : V_Pg} (hV : VL L n) (ho : opn L x n) (h : PGI g n s) : PGI (pgB L n x g) (n + 1) s := by
  obtain ⟨m1, m2, m3, m4, -⟩ := gon_ok n hV x ho
  have hmn : gon L x n ≤ n := Nat.le_trans m2 (lst_le _ _ _)
  unfold pgB
  by_cases k : (L (gon L x n)).1 = 1
  · obtain ⟨-, -, -, ⟨p, hp1, hp2⟩, hb, -⟩ := vent_1 (VL_at hV m1 hmn) k
    rw [ob_t k, hp2, i_cl (by omega)]
    exact PGI_chg hp1 h (Nat.le_succ n) (Nat.le_refl _) hb
  · rw [ob_f k]
    exact PGI_le h (Nat.le_succ n)
theorem s_back {v : V_St} {f : Nat → Int32} {n s w : Nat} (h : BK v f n s) (hw : w < nwk (lgD v.2.1) n) (ho : opn (lgD v.2.1) (nI w) n) : ∃ g' k' f', f_St_stepBack (nI w) v = some (g', addE v.2.1 n (backE (lgD v.2.1) n (nI w)), k', v.2.2.2) ∧ f_Md_stepBack (nI w) f = some f' ∧ BK (g', addE v.2.1 n (backE (lgD v.2.1) n (nI w)), k', v.2.2.2) f' (n + 1) s ∧ (∀ j, 58 ≤ j → j < 67 → f' j = f j) ∧ nwk (lgD (addE v.2.1 n (backE (lgD v.2.1) n (nI w)))) (n + 1) = nwk (lgD v.2.1) n := by
  obtain ⟨hW, hR, hP, hI⟩ := h
  have hV := hW.2.1
  have hV2 := addE_VL hV (vent_back hV ho)
  have h300 := VL_300 hV2
  obtain ⟨k', t1, t2⟩ := c_back hW hw ho
  have hg : ∀ i, 1 ≤ i → i ≤ n → lgD v.2.1 i = lgD (addE v.2.1 n (backE (lgD v.2.1) n (nI w))) i := fun i a b => (lgD_old _ _ _ (by omega)).symm
  obtain ⟨f', u1, u2, u3, u4⟩ := r_back hV hR hP hw ho hg (lgD_new _ _ _) (by omega)
  refine ⟨_, k', f', t1, u1, ⟨t2, u2, u3, PGI_back hV ho hI⟩, u4, ?_⟩
  rw [nwk_n (by rw [lgD_new]; unfold backE; split; exact d20; exact d40), nwk_cg n hg]
/-- what the steps back of one work leave -/
def TP (v : V_St) (f : Nat → Int32) (v' : V_St) (f' : Nat → Int32) (n n' s w : Nat) : Prop :=
  BK v' f' n' s ∧ v'.2.2.2 = v.2.2.2 ∧ dsv v'.2.1 = dsv v.2.1 ∧ (∀ j, 58 ≤ j → j < 67 → f' j = f j) ∧ nwk (lgD v'.2.1) n' = nwk (lgD v.2.1) n ∧ n ≤ n' ∧ ¬ opn (lgD v'.2.1) (nI w) n' ∧ (∀ y, y ≠ nI w → ((opn (lgD v'.2.1) y n' ↔ opn (lgD v.2.1) y n) ∧ (opn (lgD v.2.1) y n → (nob (lgD v.2.1) y n → nob (lgD v'.2.1) y n'))))
theorem nob_y {L L' : Nat → E7} {n : Nat} {y : Int32} (hg : ∀ i, 1 ≤ i → i ≤ n → L i = L' i) (hm : ¬ (L' (n + 1)).2.1 = y) (ho : opn L y n) (h : nob L y n) : nob L' y (n + 1) := by
  unfold nob at h ⊢
  rw [lst_miss hm, ← lst_cg y n hg, ← hg _ ho.1 (lst_le _ _ _)]
  exact h
theorem tear_par {s w : Nat} : ∀ (dep : Nat) (v : V_St) (f : Nat → Int32) (n i m1 m2 : Nat), BK v f n s → w < nwk (lgD v.2.1) n → opn (lgD v.2.1) (nI w) n → ga (lgD v.2.1) (nI w) (gon (lgD v.2.1) (nI w) n) = dep → dep < m1 → dep < m2 → i + dep < 2000 →
    ∃ v' f', f_St_tearWork_60 m1 (nI w) (nI (i + dep)) (nI i) v = some (nI (i + dep), v') ∧ f_Md_tearOn_2 m2 (nI w) (nI i) f = some (nI (i + dep), f') ∧ TP v f v' f' n (n + dep) s w := by
  intro dep
  induction dep with
  | zero =>
    intro v f n i m1 m2 h hw ho hd
    obtain ⟨hW, -⟩ := id h
    obtain ⟨m1, m2, m3, m4, -⟩ := gon_ok n hW.2.1 _ ho
    obtain ⟨g1, g2⟩ := ga_1 hW.2.1 m1 (Nat.le_trans m2 (lst_le _ _ _)) m3 m4
    rcases m4 with k | k
    · have := g1 k; omega
    · have := (g2 k).1; omega
  | succ dep ih =>
    intro v f n i m1 m2 h hw ho hd h1 h2 h3
    obtain ⟨m1, rfl⟩ : ∃ q, m1 = q + 1 := ⟨m1 - 1, by omega⟩
    obtain ⟨m2, rfl⟩ : ∃ q, m2 = q + 1 := ⟨m2 - 1, by omega⟩
    obtain ⟨hW, hR, hP, hI⟩ := id h
    have hV := hW.2.1
    have h16 := nwk_16 n hV
    obtain ⟨g', k', f', t1, t2, t3, t4, t5⟩ := s_back h hw ho
    have hg : ∀ i, 1 ≤ i → i ≤ n → lgD v.2.1 i = lgD (addE v.2.1 n (backE (lgD v.2.1) n (nI w))) i := fun i a b => (lgD_old _ _ _ (by omega)).symm
    obtain ⟨b1, b2, b3⟩ := back_opn hV ho hg (lgD_new _ _ _)
    have hx : (lgD (addE v.2.1 n (backE (lgD v.2.1) n (nI w))) (n + 1)).2.1 = nI w := by rw [lgD_new]; exact backE_x _ _ _
    have hs0 : f (40 + w) = 0 := by rw [hR.2.2.2 w hw, (opn_goo ho).2.2]
    obtain ⟨q1, q2, q3, q4, -⟩ := gon_ok n hV _ ho
    have eC : f_St_tearWork_60 (m1 + 1) (nI w) (nI (i + (dep + 1))) (nI i) v = f_St_tearWork_60 m1 (nI w) (nI (i + (dep + 1))) (nI (i + 1)) (g', addE v.2.1 n (backE (lgD v.2.1) n (nI w)), k', v.2.2.2) := by
      rw [e_St_tearWork_60, ob_lef (by omega) (by omega), t1, oc_s, kk1, i_add]
    have eR : f_Md_tearOn_2 (m2 + 1) (nI w) (nI i) f = f_Md_tearOn_2 m2 (nI w) (nI (i + 1)) f' := by
      rw [e_Md_tearOn_2, k40, i_add, og_in (by omega) (by omega), i_cl (by omega), ob_t hs0, t2, oc_s, kk1, i_add]
    rw [eC, eR]
    rcases q4 with k | k
    · obtain ⟨c1, c2⟩ := b2 k
      have : dep = 0 := by omega
      subst this
      refine ⟨(g', addE v.2.1 n (backE (lgD v.2.1) n (nI w)), k', v.2.2.2), f', ?_, ?_, t3, rfl, rfl, t4, t5, by omega, c1, fun y hy => ⟨(b3 y hy).1, fun z => nob_y hg (fun q => hy (q.symm.trans hx)) z⟩⟩
      · obtain ⟨m1, rfl⟩ : ∃ q, m1 = q + 1 := ⟨m1 - 1, by omega⟩
        rw [e_St_tearWork_60, ob_let (by omega) (by omega)]
      · obtain ⟨m2, rfl⟩ : ∃ q, m2 = q + 1 := ⟨m2 - 1, by omega⟩
        have hs1 : ¬ f' (40 + w) = 0 := by
          rw [t3.2.1.2.2.2 w (by rw [t5]; exact hw)]
          exact fun q => c1 ((sta_0 (by rw [lst_hit hx]; omega)).mp q)
        rw [e_Md_tearOn_2, k40, i_add, og_in (by omega) (by omega), i_cl (by omega), ob_f hs1]
    · obtain ⟨c1, c2, c3⟩ := b1 k
      have hll : lst (lgD v.2.1) (nI w) (gon (lgD v.2.1) (nI w) n - 1) ≤ n := by
        have := lst_le (lgD v.2.1) (nI w) (gon (lgD v.2.1) (nI w) n - 1)
        have := lst_le (lgD v.2.1) (nI w) n
        omega
      obtain ⟨v', f2, u1, u2, u3, u4, u5, u6, u7, u8, u9, u10⟩ := ih (g', addE v.2.1 n (backE (lgD v.2.1) n (nI w)), k', v.2.2.2) f' (n + 1) (i + 1) m1 m2 t3 (by show w < nwk (lgD (addE _ _ _)) _; rw [t5]; exact hw) c1
        (by
          show ga (lgD (addE _ _ _)) _ (gon (lgD (addE _ _ _)) _ _) = _
          rw [c2, ← ga_cg (nI w) _ (fun i a b => hg i a (by omega))]
          omega) (by omega) (by omega) (by omega)
      have e1 : i + 1 + dep = i + (dep + 1) := by omega
      have e2 : n + 1 + dep = n + (dep + 1) := by omega
      rw [e1] at u1 u2
      rw [e2] at u3 u7 u8 u9 u10
      refine ⟨v', f2, u1, u2, u3, u4, u5, fun j a b => (u6 j a b).trans (t4 j a b), u7.trans t5, by omega, u9, fun y hy => ?_⟩
      obtain ⟨y1, y2⟩ := u10 y hy
      obtain ⟨z1, -⟩ := b3 y hy
      refine ⟨y1.trans z1, fun o p => y2 (z1.mpr o) (nob_y hg (fun q => hy (q.symm.trans hx)) o p)⟩
theorem c_steps {v : V_St} {n w : Nat} (h : WFL v n) (hw : w < nwk (lgD v.2.1) n) (ho : opn (lgD v.2.1) (nI w) n) : f_St_stepsToTear (nI w) v = some (nI (ga (lgD v.2.1) (nI w) (gon (lgD v.2.1) (nI w) n))) := by
  obtain ⟨h1, h2, h3⟩ := h
  have h300 := VL_300 h2
  have key : ∀ N m c k, m ≤ N → 1 ≤ m → m ≤ n → (lgD v.2.1 m).2.1 = nI w → ((lgD v.2.1 m).1 = 0 ∨ (lgD v.2.1 m).1 = 1) → m < k → c + ga (lgD v.2.1) (nI w) m ≤ 301 → f_St_stepsToTear_11 k (nI m) (nI c) v = some (nI (c + ga (lgD v.2.1) (nI w) m - 1)) := by
    intro N
    induction N with
    | zero => intro m c k a b; omega
    | succ N ih =>
      intro m c k hN hm1 hm2 hx hk hf hc
      obtain ⟨k, rfl⟩ : ∃ q, k = q + 1 := ⟨k - 1, by omega⟩
      obtain ⟨g1, g2⟩ := ga_1 h2 hm1 hm2 hx hk
      have hpos : 1 ≤ ga (lgD v.2.1) (nI w) m := by
        rcases hk with q | q
        · have := g1 q; omega
        · have := (g2 q).1; omega
      rw [e_St_stepsToTear_11, k300, ob_ltf (by omega) (by omega), c_kind h1 h300 hm1 hm2, oc_s]
      have ek : v.2.1.1 m = (lgD v.2.1 m).1 := rfl
      rw [ek]
      by_cases q : (lgD v.2.1 m).1 = 1
      · obtain ⟨g3, g4, g5, g6, g7⟩ := g2 q
        have ee : v.2.1.2.2.1 m = nI (lst (lgD v.2.1) (nI w) (m - 1)) := by
          have := (VL_at h2 hm1 hm2).1
          rw [hx] at this
          exact this
        rw [ob_t q, c_earl h1 h300 hm1 hm2, oc_s, ee, kk1, i_add, ih _ (c + 1) k (by omega) g4 (by omega) g6 g7 (by omega) (by omega), g3]
        congr 2
        omega
      · rw [ob_f q, g1 (hk.resolve_right q)]
        rfl
  obtain ⟨q1, q2, q3, q4, -⟩ := gon_ok n h2 _ ho
  have hgn : gon (lgD v.2.1) (nI w) n ≤ n := Nat.le_trans q2 (lst_le _ _ _)
  have hga := ga_le (lgD v.2.1) (nI w) (gon (lgD v.2.1) (nI w) n)
  unfold f_St_stepsToTear
  rw [c_wgoon h3 h2 hw, oc_s, (opn_goo ho).1, kk1, key n _ 1 FU hgn q1 hgn q3 q4 (by unfold FU; omega) (by omega)]
  congr 2
  omega
theorem r_steps {f : Nat → Int32} {n : Nat} (hn : f 57 = nI n) (h3 : n ≤ 300) (x : Int32) : f_Md_stepsToTear x f = some (nI (1 + wrc (lgR f) x n)) := by
  have key : ∀ j i m, i + j = n → j < m → f_Md_stepsToTear_4 m x (nI (1 + wrc (lgR f) x i)) (nI (i + 1)) f = some (nI (1 + wrc (lgR f) x n)) := by
    intro j
    induction j with
    | zero =>
      intro i m hi hm
      obtain ⟨m, rfl⟩ : ∃ q, m = q + 1 := ⟨m - 1, by omega⟩
      have : i = n := by omega
      subst this
      rw [e_Md_stepsToTear_4, k57, og_in (by omega) (by omega), i_cl (by omega), hn, ob_ltt (by omega) (by omega)]
    | succ j ih =>
      intro i m hi hm
      obtain ⟨m, rfl⟩ : ∃ q, m = q + 1 := ⟨m - 1, by omega⟩
      have ih' := ih (i + 1) m (by omega) (by omega)
      rw [e_Md_stepsToTear_4, k57, og_in (by omega) (by omega), i_cl (by omega), hn, ob_ltf (by omega) (by omega), r_at (by omega), oc_s, kk1, k0, i_add, i_add, i_add, i_add, og_in (by omega) (by omega), i_cl (by omega), Nat.add_zero]
      have e : f (67 + 7 * (i + 1 - 1) + 1) = (lgR f (i + 1)).2.1 := rfl
      rw [e, oc_s, i_add, og_in (by omega) (by omega), i_cl (by omega)]
      have e : f (67 + 7 * (i + 1 - 1) + 0) = (lgR f (i + 1)).1 := rfl
      rw [e]
      by_cases q : (lgR f (i + 1)).2.1 = x
      · rw [ob_t q]
        by_cases q2 : (lgR f (i + 1)).1 = 1
        · rw [ob_t (show (lgR f (i + 1)).1 = nI 1 from q2)]
          rw [wrc_hit ⟨q, q2⟩] at ih'
          exact ih'
        · rw [ob_f (show ¬ (lgR f (i + 1)).1 = nI 1 from q2)]
          rw [wrc_miss (fun z => q2 z.2)] at ih'
          exact ih'
      · rw [ob_f q]
        rw [wrc_miss (fun z => q z.1)] at ih'
        exact ih'
  unfold f_Md_stepsToTear
  exact key n 0 FU (by omega) (by unfold FU; omega)
theorem s_tear {v : V_St} {f : Nat → Int32} {n s : Nat} (I : INV v n s) (R : REL v f n s) (x : Int32) : SIM v (f_St_tearWork x v) (f_Md_whyNotTear x f) (f_Md_tearOn x f) := by
  obtain ⟨⟨w1, w2, w3⟩, i2, i3, i4, i5, i6, i7, i8, i9⟩ := I
  obtain ⟨⟨l1, l2, l3, l4⟩, r2, r3, r4, r5, r6, r7, r8, r9, r10⟩ := R
  have h300 := VL_300 w2
  have h16 := nwk_16 n w2
  rcases wk_arg w3 h16 l3 x with ⟨w, hw, rfl⟩ | ⟨a1, a2⟩
  rotate_left
  · refine SIM_e (-1) (by decide) ?_ ?_
    · unfold f_St_tearWork; rw [a1, oc_s, ob_rfl]
    · unfold f_Md_whyNotTear; rw [a2, oc_s, ob_rfl]
  have b1 := c_whas w3 h16 hw
  have b2 := r_isWork l3 h16 hw
  have h4 := l4 w hw
  by_cases c2 : mdg v = 0
  rotate_left
  · refine SIM_e (-5) (by decide) (by unfold f_St_tearWork; rw [b1, oc_s, ob_not d10, ob_f c2]) ?_
    unfold f_Md_whyNotTear
    rw [b2, oc_s, ob_not d10, (r_stop (by omega)).1 (Or.inl (by rw [r4]; exact i5.resolve_left c2)), oc_s, ob_not d10]
  by_cases c3 : opn (lgD v.2.1) (nI w) n
  rotate_left
  · refine SIM_e (-5) (by decide) (by unfold f_St_tearWork; rw [b1, oc_s, ob_not d10, ob_t c2, c_wopenN w3 w2 hw c3, oc_s, ob_rfl]) ?_
    unfold f_Md_whyNotTear
    rw [b2, oc_s, ob_not d10, (r_stop (by omega)).1 (Or.inr (by rw [h4]; exact fun q => c3 ((sta_0 (wk_has n w2 w hw)).mp q))), oc_s, ob_not d10]
  have eG : ga (lgD v.2.1) (nI w) (gon (lgD v.2.1) (nI w) n) = 1 + wrc (lgD v.2.1) (nI w) n := by
    have e1 : gon (lgD v.2.1) (nI w) n = lst (lgD v.2.1) (nI w) n := by
      unfold gon
      rw [if_neg]
      rcases i7 c2 _ c3 with q | q <;> rw [q] <;> decide
    rw [e1, ← ga_lst, ga_wrc n w2 c3.1]
    omega
  have hga := ga_le (lgD v.2.1) (nI w) (gon (lgD v.2.1) (nI w) n)
  have hgn : gon (lgD v.2.1) (nI w) n ≤ n := Nat.le_trans (gon_ok n w2 _ c3).2.1 (lst_le _ _ _)
  have eC : f_St_tearWork (nI w) v = ob (nI (n + (1 + wrc (lgD v.2.1) (nI w) n)) ≤ nI 150) (f_St_tearWork_60 FU (nI w) (nI (1 + wrc (lgD v.2.1) (nI w) n)) (0 : Int32) v) (some ((-4 : Int32), v)) := by
    have hn : v.2.1.2.2.2.2.2.2.2.1 = nI n := w1
    unfold f_St_tearWork
    rw [b1, oc_s, ob_not d10, ob_t c2, c_wopen w3 w2 hw c3, oc_s, ob_not d10, c_steps ⟨w1, w2, w3⟩ hw c3, oc_s, eG, hn, i_add]
    rfl
  have eR : f_Md_whyNotTear (nI w) f = ob (nI (n + (1 + wrc (lgD v.2.1) (nI w) n)) ≤ nI 150) (some (0 : Int32)) (some (-4 : Int32)) := by
    unfold f_Md_whyNotTear
    rw [b2, oc_s, ob_not d10, (r_stop (by omega)).2 (by rw [r4, c2]; exact d01) (by rw [h4, (opn_goo c3).2.2]), oc_s, ob_rfl, k57, og_in (by omega) (by omega), i_cl (by omega), r_steps l2 h300, oc_s, l2, i_add, ← wrc_cg _ n l1]
    rfl
  rw [eC, eR]
  by_cases c4 : n + (1 + wrc (lgD v.2.1) (nI w) n) ≤ 150
  rotate_left
  · exact SIM_e (-4) (by decide) (by rw [ob_lef (by omega) (by omega)]) (by rw [ob_lef (by omega) (by omega)])
  obtain ⟨v', f', u1, u2, u3, u4, u5, u6, u7, u8, u9, u10⟩ := tear_par (1 + wrc (lgD v.2.1) (nI w) n) v f n 0 FU FU ⟨⟨w1, w2, w3⟩, ⟨l1, l2, l3, l4⟩, r2, i4⟩ hw c3 eG (by unfold FU; omega) (by unfold FU; omega) (by omega)
  rw [Nat.zero_add] at u1 u2
  have em : mdg v' = mdg v := congrArg (fun z => z.1) u4
  refine Or.inr ⟨nI (1 + wrc (lgD v.2.1) (nI w) n), v', f', n + (1 + wrc (lgD v.2.1) (nI w) n), s, nI_pos' (by omega), by rw [ob_let c4 (by omega)]; exact u1, by rw [ob_let c4 (by omega)], u2, ?_, ?_⟩
  · refine ⟨u3.1, u5.trans i2, by omega, u3.2.2.2, by rw [em]; exact i5, (congrArg (fun z => z.2.1) u4 : bgn v' = bgn v) ▸ i6, fun _ y hy => ?_, fun q => absurd (c2.symm.trans (em.symm.trans q)) d01, fun q => absurd (c2.symm.trans (em.symm.trans q)) d01⟩
    by_cases e : y = nI w
    · subst e
      exact absurd hy u9
    · obtain ⟨y1, y2⟩ := u10 y e
      exact y2 (y1.mp hy) (i7 c2 _ (y1.mp hy))
  · refine ⟨u3.2.1, u3.2.2.1, ?_, ?_, ?_, ?_, ?_, ?_, fun q => ?_, fun q => absurd (c2.symm.trans (em.symm.trans q)) d01⟩
    · rw [u6 58 (by omega) (by omega)]; exact r3
    · rw [u6 59 (by omega) (by omega), em]; exact r4
    · rw [u6 60 (by omega) (by omega)]; exact r5.trans (congrArg (fun z => z.2.1) u4 : bgn v' = bgn v).symm
    · rw [u6 63 (by omega) (by omega)]; exact r6.trans (congrArg (fun z => z.2.2.2.1) u4 : flo v' = flo v).symm
    · rw [u6 64 (by omega) (by omega)]; exact r7.trans (congrArg (fun z => z.2.2.2.2.1) u4 : stp v' = stp v).symm
    · rw [u6 65 (by omega) (by omega)]; exact r8.trans (congrArg (fun z => z.2.2.2.2.2) u4 : los v' = los v).symm
    · rw [u6 66 (by omega) (by omega), em]
      exact r9 ((congrArg (fun z => z.2.1) u4 : bgn v' = bgn v).symm.trans q)

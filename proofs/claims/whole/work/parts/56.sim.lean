/-! ===== PURE 7: class and reference side by side ===== -/
noncomputable def tkR (f : Nat → Int32) (p : Nat) : Nat → Int32 := ob (f (16 + p) = 0) (upd (upd (upd f (16 + p) 1) (24 + p) (f p)) (32 + p) (f (8 + p))) f
noncomputable def chR (f : Nat → Int32) (p : Nat) (x y : Int32) : Nat → Int32 := upd (upd (tkR f p) (24 + p) x) (32 + p) y
theorem r_take {f : Nat → Int32} {p : Nat} (hp : p < 8) : f_Md_takeInHand (nI p) f = some (tkR f p) := by
  unfold f_Md_takeInHand tkR
  rw [k16, i_add, og_in (by omega) (by omega), i_cl (by omega)]
  by_cases h : f (16 + p) = 0
  · rw [ob_t h, ob_t h]
    simp (disch := omega) only [k24, k32, k8, k0, i_add, og_in, i_cl, nx_s, up_n, Nat.zero_add]
  · rw [ob_f h, ob_f h]
theorem r_change {f : Nat → Int32} {p : Nat} (hp : p < 8) (x y : Int32) : f_Md_change (nI p) x y f = some (chR f p x y) := by
  unfold f_Md_change chR
  rw [r_take hp, oc_s]
  simp (disch := omega) only [k24, k32, i_add, og_in, i_cl, nx_s]
theorem tkR_o {f : Nat → Int32} {p j : Nat} (hp : p < 8) (h : j < 16 ∨ 40 ≤ j) : tkR f p j = f j := by
  unfold tkR
  by_cases q : f (16 + p) = 0
  · rw [ob_t q]
    simp (disch := omega) only [up_n]
  · rw [ob_f q]
theorem chR_o {f : Nat → Int32} {p j : Nat} (hp : p < 8) (x y : Int32) (h : j < 16 ∨ 40 ≤ j) : chR f p x y j = f j := by
  unfold chR
  rw [up_n _ _ (by omega), up_n _ _ (by omega), tkR_o hp h]
/-- pages -/
def PGR (g : V_Pg) (f : Nat → Int32) : Prop := ∀ p, p < 8 → f p = g.1 p ∧ f (8 + p) = g.2.1 p ∧ (hnd g p → f (16 + p) = 1 ∧ f (24 + p) = g.2.2.1 p ∧ f (32 + p) = g.2.2.2.1 p) ∧ (¬ hnd g p → f (16 + p) = 0)
theorem PGR_cg {g : V_Pg} {f f' : Nat → Int32} (h : PGR g f) (e : ∀ j, j < 40 → f' j = f j) : PGR g f' := fun p hp => by
  obtain ⟨a, b, c, d⟩ := h p hp
  rw [e p (by omega), e (8 + p) (by omega), e (16 + p) (by omega), e (24 + p) (by omega), e (32 + p) (by omega)]
  exact ⟨a, b, c, d⟩
theorem PGR_ch {g : V_Pg} {f : Nat → Int32} {p : Nat} (hp : p < 8) (h : PGR g f) (x y : Int32) : PGR (chg g p x y) (chR f p x y) := by
  intro q hq
  obtain ⟨a, b, c, d⟩ := h q hq
  obtain ⟨a', b', c', d'⟩ := h p hp
  rw [chR_o hp x y (by omega), chR_o hp x y (by omega)]
  have hh := chg_h hp hq g x y
  refine ⟨a, b, fun z => ?_, fun z => ?_⟩
  · by_cases e : q = p
    · subst e
      have e1 : chR f q x y (24 + q) = x := by unfold chR; rw [up_n _ _ (by omega), up_s]
      have e2 : chR f q x y (32 + q) = y := by unfold chR; rw [up_s]
      have e3 : chR f q x y (16 + q) = 1 := by
        unfold chR
        rw [up_n _ _ (by omega), up_n _ _ (by omega)]
        unfold tkR
        by_cases w : f (16 + q) = 0
        · rw [ob_t w, up_n _ _ (by omega), up_n _ _ (by omega), up_s]
        · rw [ob_f w]
          by_cases w2 : hnd g q
          · exact (c w2).1
          · exact absurd (d w2) w
      refine ⟨e3, ?_, ?_⟩
      · rw [e1]; exact (up_s _ _ _).symm
      · rw [e2]; exact (up_s _ _ _).symm
    · have z2 : hnd g q := (hh.mp z).resolve_right e
      obtain ⟨c1, c2, c3⟩ := c z2
      have e0 : ∀ b, b = 16 ∨ b = 24 ∨ b = 32 → chR f p x y (b + q) = f (b + q) := by
        intro b hb
        unfold chR
        rw [up_n _ _ (by omega), up_n _ _ (by omega)]
        unfold tkR
        by_cases w : f (16 + p) = 0
        · rw [ob_t w, up_n _ _ (by omega), up_n _ _ (by omega), up_n _ _ (by omega)]
        · rw [ob_f w]
      rw [e0 16 (by omega), e0 24 (by omega), e0 32 (by omega)]
      refine ⟨c1, ?_, ?_⟩
      · rw [c2]; exact (up_n _ _ e).symm
      · rw [c3]; exact (up_n _ _ e).symm
  · have z1 : ¬ hnd g q := fun k => z (hh.mpr (Or.inl k))
    have z2 : ¬ q = p := fun k => z (hh.mpr (Or.inr k))
    have : chR f p x y (16 + q) = f (16 + q) := by
      unfold chR
      rw [up_n _ _ (by omega), up_n _ _ (by omega)]
      unfold tkR
      by_cases w : f (16 + p) = 0
      · rw [ob_t w, up_n _ _ (by omega), up_n _ _ (by omega), up_n _ _ (by omega)]
      · rw [ob_f w]
    rw [this]
    exact d z1
theorem PGR_tk {g : V_Pg} {f : Nat → Int32} {p : Nat} (hp : p < 8) (h : PGR g f) : PGR (tkh g p) (tkR f p) := by
  obtain ⟨a, b, c, d⟩ := h p hp
  unfold tkh
  by_cases q : hnd g p
  · rw [ob_t q]
    have : tkR f p = f := by unfold tkR; rw [ob_f (by rw [(c q).1]; exact d10)]
    rw [this]
    exact h
  · rw [ob_f q]
    have e : tkR f p = chR f p (f p) (f (8 + p)) := by
      unfold chR
      unfold tkR
      rw [ob_t (d q)]
      funext j
      by_cases j1 : j = 32 + p
      · subst j1; simp only [up_s]
      · rw [up_n _ _ j1, up_n _ _ j1]
        by_cases j2 : j = 24 + p
        · subst j2; simp only [up_s]
        · rw [up_n _ _ j2, up_n _ _ j2, up_n _ _ j1, up_n _ _ j2]
    rw [e, a, b]
    exact PGR_ch hp h _ _
/-- the log and the works in the row -/
def RL (L : Nat → E7) (n : Nat) (f : Nat → Int32) : Prop := (∀ i, 1 ≤ i → i ≤ n → L i = lgR f i) ∧ f 57 = nI n ∧ f 56 = nI (nwk L n) ∧ ∀ w, w < nwk L n → f (40 + w) = sta L (nI w) n
theorem RL_R {L : Nat → E7} {n : Nat} {f : Nat → Int32} (hV : VL L n) (h : RL L n f) : WFR f n := by
  obtain ⟨h1, h2, h3, h4⟩ := h
  refine ⟨h2, VL_cg n h1 hV, by rw [h3, nwk_cg n h1], fun w hw => ?_⟩
  rw [← nwk_cg n h1] at hw
  rw [h4 w hw]
  unfold sta
  rw [lst_cg (nI w) n h1, h1 _ (by rw [← lst_cg (nI w) n h1]; exact wk_has n hV w hw) (lst_le _ _ _)]
theorem opn_cg {L L' : Nat → E7} {n : Nat} {x : Int32} (h : ∀ i, 1 ≤ i → i ≤ n → L i = L' i) : opn L x n ↔ opn L' x n := by
  unfold opn
  rw [lst_cg x n h]
  constructor
  · rintro ⟨a, b, c⟩
    rw [h _ a (lst_le _ _ _)] at b c
    exact ⟨a, b, c⟩
  · rintro ⟨a, b, c⟩
    rw [h _ a (lst_le _ _ _)]
    exact ⟨a, b, c⟩
theorem gon_cg {L L' : Nat → E7} {n : Nat} {x : Int32} (h : ∀ i, 1 ≤ i → i ≤ n → L i = L' i) (ho : opn L x n) : gon L x n = gon L' x n := by
  unfold gon
  rw [← lst_cg x n h, h _ ho.1 (lst_le _ _ _)]
theorem RL_cg {L : Nat → E7} {n : Nat} {f f' : Nat → Int32} (h : RL L n f) (e1 : ∀ j, 40 ≤ j → j < 58 → f' j = f j) (e2 : ∀ j, 67 ≤ j → f' j = f j) (h16 : nwk L n ≤ 16) : RL L n f' := by
  obtain ⟨h1, h2, h3, h4⟩ := h
  refine ⟨fun i a b => ?_, by rw [e1 57 (by omega) (by omega)]; exact h2, by rw [e1 56 (by omega) (by omega)]; exact h3, fun w hw => by rw [e1 (40 + w) (by omega) (by omega)]; exact h4 w hw⟩
  rw [h1 i a b]
  unfold lgR
  simp (disch := omega) only [e2]
/-- an entry in the row: the log has it, the works too, if the work's state is set -/
theorem RL_add {L L' : Nat → E7} {n : Nat} {f f' : Nat → Int32} {e : E7} (hV : VL L n) (hv : vent L n e) (h : RL L n f) (hg : ∀ i, 1 ≤ i → i ≤ n → L i = L' i) (hn : L' (n + 1) = e)
    (f57 : f' 57 = nI (n + 1)) (f56 : f' 56 = nI (nwk L' (n + 1))) (fe : ∀ i, 1 ≤ i → i ≤ n + 1 → lgR f' i = lgR (addR f n e) i) (fw : ∀ w, w < nwk L' (n + 1) → e.2.1 = nI w → f' (40 + w) = if e.1 = 3 then 1 else if e.1 = 4 then 2 else 0) (fo : ∀ w, w < nwk L n → e.2.1 ≠ nI w → f' (40 + w) = f (40 + w)) : RL L' (n + 1) f' := by
  obtain ⟨h1, h2, h3, h4⟩ := h
  refine ⟨fun i a b => ?_, f57, f56, fun w hw => ?_⟩
  · rw [fe i a b]
    by_cases q : i = n + 1
    · subst q; rw [hn, addR_new]
    · rw [addR_old f n e a (by omega), ← hg i a (by omega), h1 i a (by omega)]
  · by_cases q : e.2.1 = nI w
    · rw [fw w hw q]
      have hl : lst L' (nI w) (n + 1) = n + 1 := lst_hit (by rw [hn]; exact q)
      unfold sta
      rw [hl, hn]
    · have hm : ¬ (L' (n + 1)).2.1 = nI w := by rw [hn]; exact q
      have hw2 : w < nwk L n := by
        by_cases k : e.1 = 0
        · have e1 := nwk_b (L := L') (n := n) (by rw [hn]; exact k)
          rw [e1, ← nwk_cg n hg] at hw
          have e2 := (vent_0 hv k).1
          by_cases z : w = nwk L n
          · exact absurd (by rw [e2, z]) q
          · omega
        · have e1 := nwk_n (L := L') (n := n) (by rw [hn]; exact k)
          rw [e1, ← nwk_cg n hg] at hw
          exact hw
      rw [fo w hw2 q, h4 w hw2, sta_miss hm]
      unfold sta
      have e3 := wk_has n hV w hw2
      rw [← lst_cg (nI w) n hg, hg _ e3 (lst_le _ _ _)]
/-- a step back in the reference -/
theorem r_back {L L' : Nat → E7} {n w : Nat} {f : Nat → Int32} {g : V_Pg} (hV : VL L n) (h : RL L n f) (hP : PGR g f) (hw : w < nwk L n) (ho : opn L (nI w) n) (hg : ∀ i, 1 ≤ i → i ≤ n → L i = L' i) (hn : L' (n + 1) = backE L n (nI w)) (h300 : n < 300) :
    ∃ f', f_Md_stepBack (nI w) f = some f' ∧ RL L' (n + 1) f' ∧ PGR (pgB L n (nI w) g) f' ∧ ∀ j, 58 ≤ j → j < 67 → f' j = f j := by
  have hR := RL_R hV h
  have hv := vent_back hV ho
  have h16 := nwk_16 n hV
  obtain ⟨h1, h2, h3, h4⟩ := id h
  have ho' := (opn_cg h1).mp ho
  have eg := gon_cg h1 ho
  obtain ⟨m1, m2, m3, m4, -⟩ := gon_ok n hV (nI w) ho
  have hmn : gon L (nI w) n ≤ n := Nat.le_trans m2 (lst_le _ _ _)
  have em := h1 _ m1 hmn
  have el := lst_cg (nI w) n h1
  have hnk : nwk L' (n + 1) = nwk L n := by
    rw [nwk_n (by rw [hn]; unfold backE; split; exact d20; exact d40), nwk_cg n hg]
  unfold f_Md_stepBack
  rw [r_goes hR.1 hR.2.1 ho', oc_s, ← eg, r_at m1, oc_s, k0, i_add, og_in (by omega) (by omega), i_cl (by omega)]
  have c0 : f (67 + 7 * (gon L (nI w) n - 1) + 0) = (L (gon L (nI w) n)).1 := by rw [em]; rfl
  rw [c0, ← k0]
  by_cases k : (L (gon L (nI w) n)).1 = 1
  · have eb : backE L n (nI w) = (2, nI w, nI (lst L (nI w) n), (L (gon L (nI w) n)).2.2.2.1, -6, (L (gon L (nI w) n)).2.2.2.2.1, (L (gon L (nI w) n)).2.2.1) := by unfold backE; rw [if_pos k]
    obtain ⟨p, hp1, hp2⟩ := (vent_1 (VL_at hV m1 hmn) k).2.2.2.1
    have c2 : f (67 + 7 * (gon L (nI w) n - 1) + 2) = (L (gon L (nI w) n)).2.2.1 := by rw [em]; rfl
    have c3 : f (67 + 7 * (gon L (nI w) n - 1) + 3) = (L (gon L (nI w) n)).2.2.2.1 := by rw [em]; rfl
    have c4 : f (67 + 7 * (gon L (nI w) n - 1) + 4) = (L (gon L (nI w) n)).2.2.2.2.1 := by rw [em]; rfl
    refine ⟨chR (addR f n (backE L n (nI w))) p (L (gon L (nI w) n)).2.2.2.2.1 (nI (n + 1)), ?_, ?_, ?_, ?_⟩
    · rw [ob_f (by rw [k]; exact d10), oc_s, k3, i_add, og_in (by omega) (by omega), i_cl (by omega), oc_s, k4, i_add, og_in (by omega) (by omega), i_cl (by omega), oc_s, k2, i_add, og_in (by omega) (by omega), i_cl (by omega), c2, c3, c4]
      rw [r_enter hR.1 h300 _ _ _ _ _ _ (fun q => absurd q (by decide)), oc_s]
      simp only
      rw [hp2, r_change hp1, oc_s, eb, hp2, ← el]
      rfl
    · refine RL_add hV hv h hg hn ?_ ?_ ?_ ?_ ?_
      · rw [chR_o hp1 _ _ (by omega), addR_57]
      · rw [chR_o hp1 _ _ (by omega), addR_lo _ _ _ (by omega) (by omega), h3, hnk]
      · intro i a b
        unfold lgR
        simp (disch := omega) only [chR_o hp1]
      · intro v hv1 hv2
        rw [hnk] at hv1
        have hvw : v = w := i_inj (by omega) (by omega) (hv2.symm.trans (backE_x L n (nI w)))
        subst hvw
        rw [chR_o hp1 _ _ (by omega), addR_lo _ _ _ (by omega) (by omega), h4 v hv1, (opn_goo ho).2.2, eb]
        rfl
      · intro v hv1 hv2
        rw [chR_o hp1 _ _ (by omega), addR_lo _ _ _ (by omega) (by omega)]
    · unfold pgB
      rw [ob_t k, hp2, i_cl (by omega)]
      exact PGR_ch hp1 (PGR_cg hP (fun j hj => addR_lo _ _ _ (by omega) (by omega))) _ _
    · intro j j1 j2
      rw [chR_o hp1 _ _ (by omega), addR_lo _ _ _ (by omega) (by omega)]
  · have k0' : (L (gon L (nI w) n)).1 = 0 := m4.resolve_right k
    have eb : backE L n (nI w) = ent6 4 (nI w) (lst L (nI w) n) := by unfold backE; rw [if_neg k]
    refine ⟨upd (addR f n (backE L n (nI w))) (40 + w) 2, ?_, ?_, ?_, ?_⟩
    · rw [ob_t k0', r_enter hR.1 h300 _ _ _ _ _ _ (fun q => absurd q (by decide)), oc_s, k40, i_add, og_in (by omega) (by omega), i_cl (by omega), nx_s, eb, ← el]
    · refine RL_add hV hv h hg hn ?_ ?_ ?_ ?_ ?_
      · rw [up_n _ _ (by omega), addR_57]
      · rw [up_n _ _ (by omega), addR_lo _ _ _ (by omega) (by omega), h3, hnk]
      · intro i a b
        unfold lgR
        simp (disch := omega) only [up_n]
      · intro v hv1 hv2
        rw [hnk] at hv1
        have hvw : v = w := i_inj (by omega) (by omega) (hv2.symm.trans (backE_x L n (nI w)))
        subst hvw
        rw [up_s, eb]
        rfl
      · intro v hv1 hv2
        have hvw : v ≠ w := fun q => hv2 (by rw [q]; exact backE_x L n (nI w))
        rw [up_n _ _ (by omega), addR_lo _ _ _ (by omega) (by omega)]
    · unfold pgB
      rw [ob_f k]
      refine PGR_cg hP (fun j hj => ?_)
      rw [up_n _ _ (by omega), addR_lo _ _ _ (by omega) (by omega)]
    · intro j j1 j2
      rw [up_n _ _ (by omega), addR_lo _ _ _ (by omega) (by omega)]

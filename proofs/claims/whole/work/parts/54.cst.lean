/-! ===== PURE 5: entering, taking back, losing, in the class ===== -/
abbrev ent6 (k x : Int32) (m : Nat) : E7 := (k, x, nI m, -6, -6, -6, -6)
def WFL (v : V_St) (n : Nat) : Prop := dsz v.2.1 = nI n ∧ VL (lgD v.2.1) n ∧ WKS (lgD v.2.1) n v.2.2.1
theorem vent_w {L : Nat → E7} {n : Nat} {e : E7} (hV : VL L n) (hv : vent L n e) : ∃ w, w ≤ nwk L n ∧ e.2.1 = nI w := by
  by_cases k : e.1 = 0
  · exact ⟨_, Nat.le_refl _, (vent_0 hv k).1⟩
  · obtain ⟨w, h1, h2⟩ := opn_lt hV (vent_o hv k)
    exact ⟨w, by omega, h2⟩
theorem addE_VL {d : V_Dy} {n : Nat} {e : E7} (hV : VL (lgD d) n) (hv : vent (lgD d) n e) : VL (lgD (addE d n e)) (n + 1) := by
  have h : ∀ i, 1 ≤ i → i ≤ n → lgD d i = lgD (addE d n e) i := fun i a b => (lgD_old d n e (by omega)).symm
  refine ⟨VL_cg n h hV, ?_⟩
  rw [lgD_new]
  exact vent_cg h hV hv
theorem c_enter {v : V_St} {n : Nat} {e : E7} (h : WFL v n) (hv : vent (lgD v.2.1) n e) (he : e = ent6 e.1 e.2.1 (lst (lgD v.2.1) e.2.1 n)) : ∃ k', f_St_enter e.1 e.2.1 v = some (nI (n + 1), (v.1, addE v.2.1 n e, k', v.2.2.2)) ∧ WFL (v.1, addE v.2.1 n e, k', v.2.2.2) (n + 1) := by
  obtain ⟨h1, h2, h3⟩ := h
  obtain ⟨w, hw1, hw2⟩ := vent_w h2 hv
  have hV := addE_VL h2 hv
  have h300 := VL_300 hV
  have hg : ∀ i, 1 ≤ i → i ≤ n → lgD v.2.1 i = lgD (addE v.2.1 n e) i := fun i a b => (lgD_old v.2.1 n e (by omega)).symm
  obtain ⟨k', t1, t2⟩ := c_wtake (WKS_cg hg h2 h3) hV
  rw [lgD_new] at t1
  refine ⟨k', ?_, rfl, hV, t2⟩
  unfold f_St_enter
  have hl : f_Wk_lastOf e.2.1 v.2.2.1 = some (nI (lst (lgD v.2.1) e.2.1 n)) := by rw [hw2]; exact c_wlast h3 h2 hw1
  rw [hl, oc_s, c_add h1 (by omega), oc_s]
  have e1 : (e.1, e.2.1, nI (lst (lgD v.2.1) e.2.1 n), (-6 : Int32), (-6 : Int32), (-6 : Int32), (-6 : Int32)) = e := he.symm
  rw [e1]
  have e4 : e.2.2.2.1 = -6 := by rw [he]
  have e7 : e.2.2.2.2.2.2 = -6 := by rw [he]
  rw [e4, e7] at t1
  rw [t1, oc_s]
theorem c_enterP {v : V_St} {n p : Nat} {e : E7} (h : WFL v n) (hv : vent (lgD v.2.1) n e) (hp : p < 8) (hpe : e.2.2.2.1 = nI p) : ∃ k', f_St_enterOnPage e.1 e.2.1 e.2.2.2.1 e.2.2.2.2.1 e.2.2.2.2.2.1 e.2.2.2.2.2.2 v = some (chg v.1 p e.2.2.2.2.2.1 (nI (n + 1)), addE v.2.1 n e, k', v.2.2.2) ∧ WFL (chg v.1 p e.2.2.2.2.2.1 (nI (n + 1)), addE v.2.1 n e, k', v.2.2.2) (n + 1) := by
  obtain ⟨h1, h2, h3⟩ := h
  obtain ⟨w, hw1, hw2⟩ := vent_w h2 hv
  have hV := addE_VL h2 hv
  have h300 := VL_300 hV
  have hg : ∀ i, 1 ≤ i → i ≤ n → lgD v.2.1 i = lgD (addE v.2.1 n e) i := fun i a b => (lgD_old v.2.1 n e (by omega)).symm
  obtain ⟨k', t1, t2⟩ := c_wtake (WKS_cg hg h2 h3) hV
  rw [lgD_new] at t1
  refine ⟨k', ?_, rfl, hV, t2⟩
  unfold f_St_enterOnPage
  have hl : f_Wk_lastOf e.2.1 v.2.2.1 = some (nI (lst (lgD v.2.1) e.2.1 n)) := by rw [hw2]; exact c_wlast h3 h2 hw1
  rw [hl, oc_s, c_add h1 (by omega), oc_s]
  simp only
  rw [c_tell (by omega), oc_s]
  have e1 : (e.1, e.2.1, nI (lst (lgD v.2.1) e.2.1 n), e.2.2.2.1, e.2.2.2.2.1, e.2.2.2.2.2.1, e.2.2.2.2.2.2) = e := by rw [← hv.1]
  rw [e1, t1, oc_s, hpe, c_change hp, oc_s]
/-- the entry by which a work takes a step back -/
def backE (L : Nat → E7) (n : Nat) (x : Int32) : E7 := if (L (gon L x n)).1 = 1 then (2, x, nI (lst L x n), (L (gon L x n)).2.2.2.1, -6, (L (gon L x n)).2.2.2.2.1, (L (gon L x n)).2.2.1) else ent6 4 x (lst L x n)
theorem vent_back {L : Nat → E7} {n : Nat} {x : Int32} (hV : VL L n) (ho : opn L x n) : vent L n (backE L n x) := by
  obtain ⟨m1, m2, m3, m4, -⟩ := gon_ok n hV x ho
  unfold backE
  by_cases k : (L (gon L x n)).1 = 1
  · rw [if_pos k]
    exact ⟨rfl, Or.inr (Or.inr (Or.inl ⟨rfl, ho, k, rfl, rfl, rfl, rfl⟩))⟩
  · rw [if_neg k]
    have k0 : (L (gon L x n)).1 = 0 := m4.resolve_right k
    exact ⟨rfl, Or.inr (Or.inr (Or.inr (Or.inr ⟨rfl, ho, k0, rfl, rfl, rfl, rfl⟩)))⟩
theorem backE_x (L : Nat → E7) (n : Nat) (x : Int32) : (backE L n x).2.1 = x := by
  unfold backE
  split <;> rfl
noncomputable def pgB (L : Nat → E7) (n : Nat) (x : Int32) (g : V_Pg) : V_Pg := ob ((L (gon L x n)).1 = 1) (chg g (L (gon L x n)).2.2.2.1.toNatClampNeg (L (gon L x n)).2.2.2.2.1 (nI (n + 1))) g
theorem c_back {v : V_St} {n w : Nat} (h : WFL v n) (hw : w < nwk (lgD v.2.1) n) (ho : opn (lgD v.2.1) (nI w) n) : ∃ k', f_St_stepBack (nI w) v = some (pgB (lgD v.2.1) n (nI w) v.1, addE v.2.1 n (backE (lgD v.2.1) n (nI w)), k', v.2.2.2) ∧ WFL (pgB (lgD v.2.1) n (nI w) v.1, addE v.2.1 n (backE (lgD v.2.1) n (nI w)), k', v.2.2.2) (n + 1) := by
  have hh := h
  obtain ⟨h1, h2, h3⟩ := h
  have h300 := VL_300 h2
  obtain ⟨m1, m2, m3, m4, -⟩ := gon_ok n h2 (nI w) ho
  have hmn : gon (lgD v.2.1) (nI w) n ≤ n := Nat.le_trans m2 (lst_le _ _ _)
  have hv := vent_back h2 ho
  unfold f_St_stepBack
  rw [c_wgoon h3 h2 hw, oc_s, (opn_goo ho).1, c_kind h1 h300 m1 hmn, oc_s]
  have hk : v.2.1.1 (gon (lgD v.2.1) (nI w) n) = (lgD v.2.1 (gon (lgD v.2.1) (nI w) n)).1 := rfl
  by_cases k : (lgD v.2.1 (gon (lgD v.2.1) (nI w) n)).1 = 1
  · obtain ⟨p, hp1, hp2⟩ := (vent_1 (VL_at h2 m1 hmn) k).2.2.2.1
    have eb : backE (lgD v.2.1) n (nI w) = (2, nI w, nI (lst (lgD v.2.1) (nI w) n), (lgD v.2.1 (gon (lgD v.2.1) (nI w) n)).2.2.2.1, -6, (lgD v.2.1 (gon (lgD v.2.1) (nI w) n)).2.2.2.2.1, (lgD v.2.1 (gon (lgD v.2.1) (nI w) n)).2.2.1) := by unfold backE; rw [if_pos k]
    have ep : pgB (lgD v.2.1) n (nI w) v.1 = chg v.1 p (lgD v.2.1 (gon (lgD v.2.1) (nI w) n)).2.2.2.2.1 (nI (n + 1)) := by
      unfold pgB
      rw [ob_t k, hp2, i_cl (by omega)]
    obtain ⟨k', t1, t2⟩ := c_enterP (e := backE (lgD v.2.1) n (nI w)) hh hv hp1 (by rw [eb]; exact hp2)
    rw [ep]
    rw [hk, ob_t k, c_page h1 h300 m1 hmn, oc_s, c_befo h1 h300 m1 hmn, oc_s, c_earl h1 h300 m1 hmn, oc_s]
    have t3 : f_St_enterOnPage 2 (nI w) (v.2.1.2.2.2.1 (gon (lgD v.2.1) (nI w) n)) (-6) (v.2.1.2.2.2.2.1 (gon (lgD v.2.1) (nI w) n)) (v.2.1.2.2.1 (gon (lgD v.2.1) (nI w) n)) v = some (chg v.1 p (lgD v.2.1 (gon (lgD v.2.1) (nI w) n)).2.2.2.2.1 (nI (n + 1)), addE v.2.1 n (backE (lgD v.2.1) n (nI w)), k', v.2.2.2) := by
      have t4 := t1
      rw [eb] at t4
      rw [eb]
      exact t4
    have t5 : WFL (chg v.1 p (lgD v.2.1 (gon (lgD v.2.1) (nI w) n)).2.2.2.2.1 (nI (n + 1)), addE v.2.1 n (backE (lgD v.2.1) n (nI w)), k', v.2.2.2) (n + 1) := by
      have t4 := t2
      rw [eb] at t4
      rw [eb]
      exact t4
    exact ⟨k', by rw [t3, oc_s], t5⟩
  · have eb : backE (lgD v.2.1) n (nI w) = ent6 4 (nI w) (lst (lgD v.2.1) (nI w) n) := by unfold backE; rw [if_neg k]
    have ep : pgB (lgD v.2.1) n (nI w) v.1 = v.1 := by unfold pgB; rw [ob_f k]
    obtain ⟨k', t1, t2⟩ := c_enter (e := backE (lgD v.2.1) n (nI w)) hh hv (by rw [eb])
    rw [ep, hk, ob_f k]
    have t3 : f_St_enter 4 (nI w) v = some (nI (n + 1), (v.1, addE v.2.1 n (backE (lgD v.2.1) n (nI w)), k', v.2.2.2)) := by
      have t4 := t1
      rw [eb] at t4
      rw [eb]
      exact t4
    exact ⟨k', by rw [t3, oc_s], t2⟩
/-- what a step back leaves of the works -/
theorem back_opn {L L' : Nat → E7} {n : Nat} {x : Int32} (hV : VL L n) (ho : opn L x n) (hg : ∀ i, 1 ≤ i → i ≤ n → L i = L' i) (hn : L' (n + 1) = backE L n x) :
    ((L (gon L x n)).1 = 1 → opn L' x (n + 1) ∧ gon L' x (n + 1) = lst L x (gon L x n - 1) ∧ ga L x (gon L x n) = ga L x (lst L x (gon L x n - 1)) + 1) ∧ ((L (gon L x n)).1 = 0 → ¬ opn L' x (n + 1) ∧ ga L x (gon L x n) = 1) ∧
    (∀ y, y ≠ x → (opn L' y (n + 1) ↔ opn L y n) ∧ (opn L y n → gon L' y (n + 1) = gon L y n)) := by
  obtain ⟨m1, m2, m3, m4, -⟩ := gon_ok n hV x ho
  have hmn : gon L x n ≤ n := Nat.le_trans m2 (lst_le _ _ _)
  have hga := ga_1 hV m1 hmn m3 m4
  have hx : (L' (n + 1)).2.1 = x := by rw [hn]; exact backE_x L n x
  have hl := lst_hit hx
  refine ⟨fun k => ?_, fun k => ?_, fun y hy => ?_⟩
  · obtain ⟨g1, g2, g3, g4, g5⟩ := hga.2 k
    have eb : backE L n x = (2, x, nI (lst L x n), (L (gon L x n)).2.2.2.1, -6, (L (gon L x n)).2.2.2.2.1, (L (gon L x n)).2.2.1) := by unfold backE; rw [if_pos k]
    refine ⟨⟨by omega, by rw [hl, hn, eb]; exact d23, by rw [hl, hn, eb]; exact d24⟩, ?_, g1⟩
    unfold gon
    rw [hl, hn, eb]
    show (if (2 : Int32) = 2 then (L (gon L x n)).2.2.1.toNatClampNeg else _) = _
    rw [if_pos rfl, (VL_at hV m1 hmn).1, m3]
    have h300 := VL_300 hV
    exact i_cl (by omega)
  · have eb : backE L n x = ent6 4 x (lst L x n) := by unfold backE; rw [if_neg (by rw [k]; exact d01)]
    exact ⟨fun q => q.2.2 (by rw [hl, hn, eb]), hga.1 k⟩
  · have hm : ¬ (L' (n + 1)).2.1 = y := by rw [hx]; exact fun q => hy q.symm
    have hl2 : lst L' y (n + 1) = lst L y n := by rw [lst_miss hm, lst_cg y n hg]
    have e1 : 1 ≤ lst L y n → L' (lst L y n) = L (lst L y n) := fun q => (hg _ q (lst_le _ _ _)).symm
    constructor
    · unfold opn
      rw [hl2]
      constructor
      · rintro ⟨a, b, c⟩
        rw [e1 a] at b c
        exact ⟨a, b, c⟩
      · rintro ⟨a, b, c⟩
        rw [e1 a]
        exact ⟨a, b, c⟩
    · intro q
      unfold gon
      rw [hl2, e1 q.1]
/-- losing the last entries -/
theorem c_lose {v : V_St} {n m s : Nat} (h : WFL v n) (hs : dsv v.2.1 = nI s) (hsn : s ≤ n) (hm : m ≤ n) : ∃ k', f_St_loseEntries (nI m) v = some (v.1, (v.2.1.1, v.2.1.2.1, v.2.1.2.2.1, v.2.1.2.2.2.1, v.2.1.2.2.2.2.1, v.2.1.2.2.2.2.2.1, v.2.1.2.2.2.2.2.2.1, nI (n - m), nI (min s (n - m))), k', v.2.2.2.1, v.2.2.2.2.1, v.2.2.2.2.2.1, v.2.2.2.2.2.2.1, v.2.2.2.2.2.2.2.1, v.2.2.2.2.2.2.2.2 + nI m) ∧ WKS (lgD v.2.1) (n - m) k' := by
  obtain ⟨h1, h2, h3⟩ := h
  have h300 := VL_300 h2
  unfold dsz at h1
  unfold dsv at hs
  obtain ⟨k', t1, t2⟩ := c_wread (d := (v.2.1.1, v.2.1.2.1, v.2.1.2.2.1, v.2.1.2.2.2.1, v.2.1.2.2.2.2.1, v.2.1.2.2.2.2.2.1, v.2.1.2.2.2.2.2.2.1, nI (n - m), nI (min s (n - m)))) (n := n - m) rfl (VL_le h2 (by omega)) v.2.2.1
  refine ⟨k', ?_, t2⟩
  have e1 : (if (0 : Int32) < nI (n - m) then nI (n - m) else (0 : Int32)) = nI (n - m) := by
    by_cases q : 0 < n - m
    · rw [k0, if_pos (nI_lt q (by omega))]
    · have : n - m = 0 := by omega
      rw [this]; rfl
  unfold f_St_loseEntries f_Dy_lose
  rw [h1, hs, i_sub hm, e1, i_min s (n - m) (by omega) (by omega), oc_s, t1, oc_s]

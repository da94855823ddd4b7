/-! ===== PURE 4: what the class keeps of the works ===== -/
theorem lst_hit {L : Nat → E7} {x : Int32} {n : Nat} (h : (L (n + 1)).2.1 = x) : lst L x (n + 1) = n + 1 := by
  show (if _ then _ else _) = _
  rw [if_pos h]
theorem lst_miss {L : Nat → E7} {x : Int32} {n : Nat} (h : ¬ (L (n + 1)).2.1 = x) : lst L x (n + 1) = lst L x n := by
  show (if _ then _ else _) = _
  rw [if_neg h]
theorem cnt_hit {L : Nat → E7} {x : Int32} {n : Nat} (h : (L (n + 1)).2.1 = x) : cnt L x (n + 1) = cnt L x n + 1 := by
  show (if _ then _ else _) = _
  rw [if_pos h]
theorem cnt_miss {L : Nat → E7} {x : Int32} {n : Nat} (h : ¬ (L (n + 1)).2.1 = x) : cnt L x (n + 1) = cnt L x n := by
  show (if _ then _ else _) = _
  rw [if_neg h]
theorem pgs_hit {L : Nat → E7} {x : Int32} {n : Nat} (h : (L (n + 1)).2.1 = x) (k : (L (n + 1)).1 = 1) : pgs L x (n + 1) = pgs L x n ||| ((1 : Int32) <<< ((L (n + 1)).2.2.2.1 &&& 31)) := by
  show (if _ then _ else _) = _
  rw [if_pos ⟨h, k⟩]
theorem pgs_miss {L : Nat → E7} {x : Int32} {n : Nat} (h : ¬ ((L (n + 1)).2.1 = x ∧ (L (n + 1)).1 = 1)) : pgs L x (n + 1) = pgs L x n := by
  show (if _ then _ else _) = _
  rw [if_neg h]
theorem nwk_b {L : Nat → E7} {n : Nat} (k : (L (n + 1)).1 = 0) : nwk L (n + 1) = nwk L n + 1 := by
  show (if _ then _ else _) = _
  rw [if_pos k]
theorem nwk_n {L : Nat → E7} {n : Nat} (k : ¬ (L (n + 1)).1 = 0) : nwk L (n + 1) = nwk L n := by
  show (if _ then _ else _) = _
  rw [if_neg k]
theorem fresh {L : Nat → E7} {x : Int32} : ∀ n, lst L x n = 0 → cnt L x n = 0 ∧ pgs L x n = 0 ∧ wrc L x n = 0
  | 0, _ => ⟨rfl, rfl, rfl⟩
  | n + 1, h => by
    by_cases e : (L (n + 1)).2.1 = x
    · rw [lst_hit e] at h
      omega
    · rw [lst_miss e] at h
      obtain ⟨h1, h2, h3⟩ := fresh n h
      refine ⟨by rw [cnt_miss e]; exact h1, by rw [pgs_miss (fun q => e q.1)]; exact h2, ?_⟩
      show (if _ then _ else _) = _
      rw [if_neg (fun q => e q.1)]
      exact h3
theorem cnt_le (L : Nat → E7) (x : Int32) : ∀ n, cnt L x n ≤ n
  | 0 => Nat.le_refl _
  | n + 1 => by
    have := cnt_le L x n
    unfold cnt
    split <;> omega
def sta (L : Nat → E7) (x : Int32) (n : Nat) : Int32 := if (L (lst L x n)).1 = 3 then 1 else if (L (lst L x n)).1 = 4 then 2 else 0
def pgo (L : Nat → E7) (x : Int32) (n : Nat) : Int32 := if (L (lst L x n)).1 = 3 then 0 else if (L (lst L x n)).1 = 4 then 0 else pgs L x n
def goo (L : Nat → E7) (x : Int32) (n : Nat) : Nat := if (L (lst L x n)).1 = 3 then 0 else if (L (lst L x n)).1 = 4 then 0 else gon L x n
theorem sta_miss {L : Nat → E7} {x : Int32} {n : Nat} (h : ¬ (L (n + 1)).2.1 = x) : sta L x (n + 1) = sta L x n := by unfold sta; rw [lst_miss h]
theorem pgo_miss {L : Nat → E7} {x : Int32} {n : Nat} (h : ¬ (L (n + 1)).2.1 = x) : pgo L x (n + 1) = pgo L x n := by unfold pgo; rw [lst_miss h, pgs_miss (fun q => h q.1)]
theorem goo_miss {L : Nat → E7} {x : Int32} {n : Nat} (h : ¬ (L (n + 1)).2.1 = x) : goo L x (n + 1) = goo L x n := by unfold goo gon; rw [lst_miss h]
theorem opn_goo {L : Nat → E7} {x : Int32} {n : Nat} (h : opn L x n) : goo L x n = gon L x n ∧ pgo L x n = pgs L x n ∧ sta L x n = 0 := by
  unfold goo pgo sta
  rw [if_neg h.2.1, if_neg h.2.2, if_neg h.2.1, if_neg h.2.2, if_neg h.2.1, if_neg h.2.2]
  exact ⟨rfl, rfl, rfl⟩
theorem sta_0 {L : Nat → E7} {x : Int32} {n : Nat} (h1 : 1 ≤ lst L x n) : sta L x n = 0 ↔ opn L x n := by
  constructor
  · intro h
    unfold sta at h
    by_cases a : (L (lst L x n)).1 = 3
    · rw [if_pos a] at h; exact absurd h d10
    · by_cases b : (L (lst L x n)).1 = 4
      · rw [if_neg a, if_pos b] at h; exact absurd h d20
      · exact ⟨h1, a, b⟩
  · intro h
    exact (opn_goo h).2.2
/-- the rows of works agree with the log -/
def WKS (L : Nat → E7) (n : Nat) (k : V_Wk) : Prop := k.2.2.2.2.2 = nI (nwk L n) ∧ ∀ w, w < nwk L n → k.1 w = sta L (nI w) n ∧ k.2.1 w = nI (lst L (nI w) n) ∧ k.2.2.1 w = nI (cnt L (nI w) n) ∧ k.2.2.2.1 w = pgo L (nI w) n ∧ k.2.2.2.2.1 w = nI (goo L (nI w) n)
section WG
variable {L : Nat → E7} {n w : Nat} {k : V_Wk}
theorem c_whas (hW : WKS L n k) (h16 : nwk L n ≤ 16) (hw : w < nwk L n) : f_Wk_has (nI w) k = some 1 := by
  unfold f_Wk_has
  rw [hW.1]
  simp (disch := omega) only [k0, k16, ob_ltf, ob_lef]
theorem c_whasN (hW : WKS L n k) (h16 : nwk L n ≤ 16) (hw : nwk L n ≤ w) (h2 : w < 2147483648) : f_Wk_has (nI w) k = some 0 := by
  unfold f_Wk_has
  rw [hW.1]
  simp (disch := omega) only [k0, k16, ob_ltf, ob_let]
theorem c_whasM {x : Int32} (h : x < 0) : f_Wk_has x k = some 0 := by
  unfold f_Wk_has
  rw [ob_t h]
theorem c_wopen (hW : WKS L n k) (hV : VL L n) (hw : w < nwk L n) (ho : opn L (nI w) n) : f_Wk_isOpen (nI w) k = some 1 := by
  have h16 := nwk_16 n hV
  unfold f_Wk_isOpen
  rw [c_whas hW h16 hw, oc_s, ob_not d10, og_in (by omega) (by omega), i_cl (by omega), (hW.2 w hw).1, (opn_goo ho).2.2, ob_rfl]
theorem c_wopenN (hW : WKS L n k) (hV : VL L n) (hw : w < nwk L n) (ho : ¬ opn L (nI w) n) : f_Wk_isOpen (nI w) k = some 0 := by
  have h16 := nwk_16 n hV
  unfold f_Wk_isOpen
  rw [c_whas hW h16 hw, oc_s, ob_not d10, og_in (by omega) (by omega), i_cl (by omega), (hW.2 w hw).1, ob_f (fun q => ho ((sta_0 (wk_has n hV w hw)).mp q))]
theorem c_wlast (hW : WKS L n k) (hV : VL L n) (hw : w ≤ nwk L n) : f_Wk_lastOf (nI w) k = some (nI (lst L (nI w) n)) := by
  have h16 := nwk_16 n hV
  unfold f_Wk_lastOf
  by_cases e : w = nwk L n
  · subst e
    rw [c_whasN hW h16 (Nat.le_refl _) (by omega), oc_s, ob_rfl, wk_new hV]
    rfl
  · rw [c_whas hW h16 (by omega), oc_s, ob_not d10, og_in (by omega) (by omega), i_cl (by omega), (hW.2 w (by omega)).2.1]
theorem c_wgoon (hW : WKS L n k) (hV : VL L n) (hw : w < nwk L n) : f_Wk_goOnOf (nI w) k = some (nI (goo L (nI w) n)) := by
  have h16 := nwk_16 n hV
  unfold f_Wk_goOnOf
  rw [c_whas hW h16 (by omega), oc_s, ob_not d10, og_in (by omega) (by omega), i_cl (by omega), (hW.2 w (by omega)).2.2.2.2]
theorem c_wgoon6 (k : V_Wk) : f_Wk_goOnOf (-6) k = some 0 := by
  unfold f_Wk_goOnOf
  rw [c_whasM (by decide), oc_s, ob_rfl]
end WG
/-- taking in the next entry -/
theorem c_wtake {L : Nat → E7} {n : Nat} {k : V_Wk} (hW : WKS L n k) (hV : VL L (n + 1)) : ∃ k', f_Wk_take (nI (n + 1)) (L (n + 1)).1 (L (n + 1)).2.1 (L (n + 1)).2.2.2.1 (L (n + 1)).2.2.2.2.2.2 k = some k' ∧ WKS L (n + 1) k' := by
  have h300 := VL_300 hV
  have hv := hV.2
  have h16 := nwk_16 (n + 1) hV
  have h16' := nwk_16 n hV.1
  obtain ⟨w, hw1, hw2⟩ := wk_of (n + 1) hV (n + 1) (by omega) (Nat.le_refl _)
  have hd : ∀ v, v < nwk L (n + 1) → v ≠ w → ¬ (L (n + 1)).2.1 = nI v := fun v a b q => b (i_inj (by omega) (by omega) (q.symm.trans hw2))
  rw [hw2]
  rcases vent_k hv with e | e | e | e | e
  · -- a beginning
    have hn := nwk_b e
    have hwn : w = nwk L n := i_inj (by omega) (by omega) (hw2.symm.trans (vent_0 hv e).1)
    rw [← hwn] at hn
    have hf := fresh n (by rw [← wk_new hV.1, ← (vent_0 hv e).1, hw2] : lst L (nI w) n = 0)
    apply Exists.intro
    apply And.intro
    · rw [e]
      unfold f_Wk_take f_Wk_take_35 f_Wk_has f_Wk_take_59 f_Wk_take_85 f_Wk_take_128
      simp (disch := omega) only [k0, k1, k2, k3, k4, k16, ob_eqt, ob_eqf, ob_ltf, ob_lef, ob_T, ob_F, og_in, nx_s, oc_s, i_cl, i_add, up_s]
      rfl
    · refine ⟨by rw [hn], fun v hv2 => ?_⟩
      rw [hn] at hv2
      by_cases q : v = w
      · subst q
        have hl := lst_hit hw2
        refine ⟨?_, ?_, ?_, ?_, ?_⟩
        · simp only [up_s]; unfold sta; rw [hl, e]; rfl
        · simp only [up_s]; rw [hl]
        · simp only [up_s]; rw [cnt_hit hw2, hf.1]
        · simp only [up_s]; unfold pgo; rw [hl, e, pgs_miss (fun q => d01 (e.symm.trans q.2)), hf.2.1]; rfl
        · simp only [up_s]; unfold goo gon; rw [hl, e]; rfl
      · obtain ⟨a1, a2, a3, a4, a5⟩ := hW.2 v (by omega)
        have hm := hd v (by omega) q
        simp only [up_n _ _ q]
        rw [sta_miss hm, lst_miss hm, cnt_miss hm, pgo_miss hm, goo_miss hm]
        exact ⟨a1, a2, a3, a4, a5⟩
  · -- a writing
    have hn := nwk_n (L := L) (n := n) (by rw [e]; exact d10)
    rw [hn] at hw1
    obtain ⟨b1, b2, b3, b4, b5⟩ := hW.2 w hw1
    obtain ⟨o1, -⟩ := vent_1 hv e
    rw [hw2] at o1
    apply Exists.intro
    apply And.intro
    · rw [e]
      unfold f_Wk_take f_Wk_take_35 f_Wk_take_59 f_Wk_take_85 f_Wk_take_128
      rw [c_whas hW h16' hw1]
      simp (disch := omega) only [k0, k1, k2, k3, k4, k16, ob_eqt, ob_eqf, ob_ltf, ob_lef, ob_T, ob_F, og_in, nx_s, oc_s, i_cl, i_add, up_s]
      rfl
    · refine ⟨by rw [hn]; exact hW.1, fun v hv2 => ?_⟩
      rw [hn] at hv2
      by_cases q : v = w
      · subst q
        have hl := lst_hit hw2
        refine ⟨?_, ?_, ?_, ?_, ?_⟩
        · simp only [up_s]; unfold sta; rw [hl, e]; rfl
        · simp only [up_s]; rw [hl]
        · simp only [up_s]; rw [cnt_hit hw2, b3, i_add]
        · simp only [up_s]; unfold pgo; rw [hl, e, pgs_hit hw2 e, b4, (opn_goo o1).2.1]; rfl
        · simp only [up_s]; unfold goo gon; rw [hl, e]; rfl
      · obtain ⟨a1, a2, a3, a4, a5⟩ := hW.2 v hv2
        have hm := hd v (by omega) q
        simp only [up_n _ _ q]
        rw [sta_miss hm, lst_miss hm, cnt_miss hm, pgo_miss hm, goo_miss hm]
        exact ⟨a1, a2, a3, a4, a5⟩
  · -- a taking back
    have hn := nwk_n (L := L) (n := n) (by rw [e]; exact d20)
    rw [hn] at hw1
    obtain ⟨b1, b2, b3, b4, b5⟩ := hW.2 w hw1
    obtain ⟨o1, -⟩ := vent_2 hv e
    rw [hw2] at o1
    have hl := lst_hit hw2
    have og : opn L (nI w) (n + 1) := ⟨by omega, by rw [hl, e]; exact d23, by rw [hl, e]; exact d24⟩
    have hg := (gon_ok (n + 1) hV (nI w) og).2.2.2.2 (by rw [hl]; exact e)
    rw [hl] at hg
    apply Exists.intro
    apply And.intro
    · rw [e]
      unfold f_Wk_take f_Wk_take_35 f_Wk_take_59 f_Wk_take_85 f_Wk_take_128
      rw [c_whas hW h16' hw1]
      simp (disch := omega) only [k0, k1, k2, k3, k4, k16, ob_eqt, ob_eqf, ob_ltf, ob_lef, ob_T, ob_F, og_in, nx_s, oc_s, i_cl, i_add, up_s]
      rfl
    · refine ⟨by rw [hn]; exact hW.1, fun v hv2 => ?_⟩
      rw [hn] at hv2
      by_cases q : v = w
      · subst q
        refine ⟨?_, ?_, ?_, ?_, ?_⟩
        · simp only [up_s]; unfold sta; rw [hl, e]; rfl
        · simp only [up_s]; rw [hl]
        · simp only [up_s]; rw [cnt_hit hw2, b3, i_add]
        · unfold pgo; rw [hl, e, pgs_miss (fun q => d21 (e.symm.trans q.2)), b4, (opn_goo o1).2.1]; rfl
        · simp only [up_s]; rw [(opn_goo og).1, hg]
      · obtain ⟨a1, a2, a3, a4, a5⟩ := hW.2 v hv2
        have hm := hd v (by omega) q
        simp only [up_n _ _ q]
        rw [sta_miss hm, lst_miss hm, cnt_miss hm, pgo_miss hm, goo_miss hm]
        exact ⟨a1, a2, a3, a4, a5⟩
  · -- done
    have hn := nwk_n (L := L) (n := n) (by rw [e]; exact d30)
    rw [hn] at hw1
    obtain ⟨b1, b2, b3, b4, b5⟩ := hW.2 w hw1
    have hl := lst_hit hw2
    apply Exists.intro
    apply And.intro
    · rw [e]
      unfold f_Wk_take f_Wk_take_35 f_Wk_take_59 f_Wk_take_85 f_Wk_take_128
      rw [c_whas hW h16' hw1]
      simp (disch := omega) only [k0, k1, k2, k3, k4, k16, ob_eqt, ob_eqf, ob_ltf, ob_lef, ob_T, ob_F, og_in, nx_s, oc_s, i_cl, i_add, up_s]
      rfl
    · refine ⟨by rw [hn]; exact hW.1, fun v hv2 => ?_⟩
      rw [hn] at hv2
      by_cases q : v = w
      · subst q
        refine ⟨?_, ?_, ?_, ?_, ?_⟩
        · simp only [up_s]; unfold sta; rw [hl, e]; rfl
        · simp only [up_s]; rw [hl]
        · simp only [up_s]; rw [cnt_hit hw2, b3, i_add]
        · simp only [up_s]; unfold pgo; rw [hl, e]; rfl
        · simp only [up_s]; unfold goo; rw [hl, e]; rfl
      · obtain ⟨a1, a2, a3, a4, a5⟩ := hW.2 v hv2
        have hm := hd v (by omega) q
        simp only [up_n _ _ q]
        rw [sta_miss hm, lst_miss hm, cnt_miss hm, pgo_miss hm, goo_miss hm]
        exact ⟨a1, a2, a3, a4, a5⟩
  · -- left
    have hn := nwk_n (L := L) (n := n) (by rw [e]; exact d40)
    rw [hn] at hw1
    obtain ⟨b1, b2, b3, b4, b5⟩ := hW.2 w hw1
    have hl := lst_hit hw2
    apply Exists.intro
    apply And.intro
    · rw [e]
      unfold f_Wk_take f_Wk_take_35 f_Wk_take_59 f_Wk_take_85 f_Wk_take_128
      rw [c_whas hW h16' hw1]
      simp (disch := omega) only [k0, k1, k2, k3, k4, k16, ob_eqt, ob_eqf, ob_ltf, ob_lef, ob_T, ob_F, og_in, nx_s, oc_s, i_cl, i_add, up_s]
      rfl
    · refine ⟨by rw [hn]; exact hW.1, fun v hv2 => ?_⟩
      rw [hn] at hv2
      by_cases q : v = w
      · subst q
        refine ⟨?_, ?_, ?_, ?_, ?_⟩
        · simp only [up_s]; unfold sta; rw [hl, e]; rfl
        · simp only [up_s]; rw [hl]
        · simp only [up_s]; rw [cnt_hit hw2, b3, i_add]
        · simp only [up_s]; unfold pgo; rw [hl, e]; rfl
        · simp only [up_s]; unfold goo; rw [hl, e]; rfl
      · obtain ⟨a1, a2, a3, a4, a5⟩ := hW.2 v hv2
        have hm := hd v (by omega) q
        simp only [up_n _ _ q]
        rw [sta_miss hm, lst_miss hm, cnt_miss hm, pgo_miss hm, goo_miss hm]
        exact ⟨a1, a2, a3, a4, a5⟩
theorem WKS_cg {L L' : Nat → E7} {n : Nat} {k : V_Wk} (h : ∀ i, 1 ≤ i → i ≤ n → L i = L' i) (hV : VL L n) (hW : WKS L n k) : WKS L' n k := by
  have e1 := nwk_cg n h
  refine ⟨by rw [← e1]; exact hW.1, fun w hw => ?_⟩
  rw [← e1] at hw
  obtain ⟨a1, a2, a3, a4, a5⟩ := hW.2 w hw
  have e2 := lst_cg (nI w) n h
  have h1 := wk_has n hV w hw
  have e3 : L (lst L (nI w) n) = L' (lst L (nI w) n) := h _ h1 (lst_le _ _ _)
  refine ⟨?_, ?_, ?_, ?_, ?_⟩
  · rw [a1]; unfold sta; rw [← e2, e3]
  · rw [a2, e2]
  · rw [a3, cnt_cg (nI w) n h]
  · rw [a4]; unfold pgo; rw [← e2, e3, pgs_cg (nI w) n h]
  · rw [a5]; unfold goo gon; rw [← e2, e3]
theorem vent_cg {L L' : Nat → E7} {n : Nat} {e : E7} (h : ∀ i, 1 ≤ i → i ≤ n → L i = L' i) (hV : VL L n) (hv : vent L n e) : vent L' n e := by
  have e1 := nwk_cg n h
  have e2 := lst_cg e.2.1 n h
  have eo : ∀ x, 1 ≤ lst L x n → L (lst L x n) = L' (lst L' x n) := fun x h1 => by rw [← lst_cg x n h]; exact h _ h1 (lst_le _ _ _)
  have ho : ∀ x, opn L x n ↔ opn L' x n := fun x => by
    unfold opn
    rw [← lst_cg x n h]
    constructor
    · rintro ⟨a, b, c⟩
      have := eo x a
      rw [← lst_cg x n h] at this
      rw [← this]
      exact ⟨a, b, c⟩
    · rintro ⟨a, b, c⟩
      have := eo x a
      rw [← lst_cg x n h] at this
      rw [this]
      exact ⟨a, b, c⟩
  have hb : ∀ x, opn L x n → (nob L x n ↔ nob L' x n) := fun x q => by unfold nob; rw [eo x q.1]
  have hg : ∀ x, opn L x n → gon L x n = gon L' x n ∧ L (gon L x n) = L' (gon L' x n) := fun x q => by
    have e : gon L x n = gon L' x n := by unfold gon; rw [eo x q.1, lst_cg x n h]
    refine ⟨e, ?_⟩
    rw [← e]
    obtain ⟨m1, m2, -⟩ := gon_ok n hV x q
    exact h _ m1 (Nat.le_trans m2 (lst_le _ _ _))
  refine ⟨by rw [← e2]; exact hv.1, ?_⟩
  rcases hv.2 with q | q | q | q | q
  · exact Or.inl ⟨q.1, by rw [← e1]; exact q.2.1, by rw [← e1]; exact q.2.2.1, q.2.2.2⟩
  · obtain ⟨q1, q2, q3, q4, q5, q6, q7, q8, q9⟩ := q
    refine Or.inr (Or.inl ⟨q1, (ho _).mp q2, (hb _ q2).mp q3, q4, q5, q6, q7, q8, fun x a b c => ?_⟩)
    refine q9 x a ((ho x).mpr b) ?_
    obtain ⟨i, i1, i2, i3⟩ := c
    exact ⟨i, i1, i2, by rw [h i i1 i2]; exact i3⟩
  · obtain ⟨q1, q2, q3, q4, q5, q6, q7⟩ := q
    have := (hg _ q2).2
    exact Or.inr (Or.inr (Or.inl ⟨q1, (ho _).mp q2, by rw [← this]; exact q3, by rw [← this]; exact q4, q5, by rw [← this]; exact q6, by rw [← this]; exact q7⟩))
  · obtain ⟨q1, q2, q3, q4⟩ := q
    exact Or.inr (Or.inr (Or.inr (Or.inl ⟨q1, (ho _).mp q2, (hb _ q2).mp q3, q4⟩)))
  · obtain ⟨q1, q2, q3, q4⟩ := q
    have := (hg _ q2).2
    exact Or.inr (Or.inr (Or.inr (Or.inr ⟨q1, (ho _).mp q2, by rw [← this]; exact q3, q4⟩)))
theorem VL_cg {L L' : Nat → E7} : ∀ n, (∀ i, 1 ≤ i → i ≤ n → L i = L' i) → VL L n → VL L' n
  | 0, _, _ => trivial
  | n + 1, h, hV => ⟨VL_cg n (fun i a b => h i a (by omega)) hV.1, by
    rw [← h (n + 1) (by omega) (by omega)]
    exact vent_cg (fun i a b => h i a (by omega)) hV.1 hV.2⟩
/-- reading anew -/
theorem c_wread {d : V_Dy} {n : Nat} (hn : dsz d = nI n) (hV : VL (lgD d) n) (k : V_Wk) : ∃ k', f_Wk_readAnew k d = some k' ∧ WKS (lgD d) n k' := by
  have h300 := VL_300 hV
  have key : ∀ j i m (k : V_Wk), i + j = n → j < m → WKS (lgD d) i k → ∃ k', f_Wk_readAnew_7 m (nI (i + 1)) k d = some k' ∧ WKS (lgD d) n k' := by
    intro j
    induction j with
    | zero =>
      intro i m k hi hm hW
      obtain ⟨m, rfl⟩ : ∃ q, m = q + 1 := ⟨m - 1, by omega⟩
      have : i = n := by omega
      subst this
      refine ⟨k, ?_, hW⟩
      unfold dsz at hn
      rw [e_Wk_readAnew_7, hn, ob_ltt (by omega) (by omega)]
    | succ j ih =>
      intro i m k hi hm hW
      obtain ⟨m, rfl⟩ : ∃ q, m = q + 1 := ⟨m - 1, by omega⟩
      obtain ⟨k1, h1, h2⟩ := c_wtake hW (VL_le hV (show i + 1 ≤ n by omega))
      obtain ⟨k2, h3, h4⟩ := ih (i + 1) m k1 (by omega) (by omega) h2
      refine ⟨k2, ?_, h4⟩
      rw [e_Wk_readAnew_7]
      have hn2 := hn
      unfold dsz at hn2
      rw [hn2, ob_ltf (by omega) (by omega), c_kind hn h300 (by omega) (by omega), oc_s, c_work hn h300 (by omega) (by omega), oc_s, c_page hn h300 (by omega) (by omega), oc_s, c_next hn h300 (by omega) (by omega), oc_s]
      have h1' : f_Wk_take (nI (i + 1)) (d.1 (i + 1)) (d.2.1 (i + 1)) (d.2.2.2.1 (i + 1)) (d.2.2.2.2.2.2.1 (i + 1)) k = some k1 := h1
      rw [h1', oc_s, kk1, i_add]
      exact h3
  unfold f_Wk_readAnew
  exact key n 0 FU _ (by omega) (by unfold FU; omega) ⟨rfl, fun w hw => by simp [nwk] at hw⟩

/-! ===== PURE 43: the start; slots as the law sees them ===== -/
theorem INV_0 : INV St0 0 0 := by
  refine ⟨⟨rfl, trivial, rfl, fun w hw => absurd hw (Nat.not_lt_zero _)⟩, rfl, Nat.le_refl _, fun p hp => ⟨⟨0, Nat.le_refl _, rfl⟩, Int32.le_refl _, fun z => absurd z (hnd_0 _ _ _ _ p)⟩, Or.inl rfl, Or.inl rfl, fun _ x hx => absurd hx.1 (Nat.not_succ_le_zero _), fun z => absurd z d01, fun z => absurd z d01⟩
theorem REL_0 : REL St0 (fun _ => 0) 0 0 := by
  refine ⟨⟨fun i a b => absurd a (by omega), rfl, rfl, fun w hw => absurd hw (Nat.not_lt_zero _)⟩, fun p hp => ⟨rfl, rfl, fun z => absurd z (hnd_0 _ _ _ _ p), fun _ => rfl⟩, rfl, rfl, rfl, rfl, rfl, rfl, fun _ => Iff.rfl, fun z => absurd z d01⟩
theorem ALL_0 : ALL Fd0 Md0 := ⟨⟨0, 0, INV_0, REL_0⟩, ⟨0, 0, by omega, by omega, rfl, rfl, rfl, fun k hk => absurd hk (Nat.not_lt_zero _)⟩, 0, by omega, rfl, rfl, fun j hj => absurd hj (Nat.not_lt_zero _)⟩
def SLS (G : GG) (b0 : Nat) (X : va_W) (M : V_Md) : Prop :=
  (∃ (b : Nat → Nat) (w : V_S0), b 0 = b0 ∧ X = W_S0 G b w ∧ SLe 0 M ∧ SLe 1 M) ∨
  (∃ (b : Nat → Nat) (u : V_S1), b 0 = b0 ∧ X = W_S1 G b u ∧ SLa 0 u M ∧ SLe 1 M) ∨
  (∃ (b : Nat → Nat) (u : V_S2), b 0 = b0 ∧ X = W_S2 G b u ∧ SLe 0 M ∧ SLa 1 u M) ∨
  (∃ (b : Nat → Nat) (u : V_S3), b 0 = b0 ∧ X = W_S3 G b u ∧ SLa 0 u.1 M ∧ SLa 1 u.2 M)
theorem SLS_cg {G : GG} {b0 : Nat} {X : va_W} {M M' : V_Md} (h : SLS G b0 X M) (e1 : M'.2.2.2.2.1 = M.2.2.2.2.1) (e2 : M'.2.2.2.2.2.1 = M.2.2.2.2.2.1) : SLS G b0 X M' := by
  rcases h with ⟨b, w, h1, h2, h3, h4⟩ | ⟨b, u, h1, h2, h3, h4⟩ | ⟨b, u, h1, h2, h3, h4⟩ | ⟨b, u, h1, h2, h3, h4⟩
  · exact Or.inl ⟨b, w, h1, h2, SLe_cg h3 e2, SLe_cg h4 e2⟩
  · exact Or.inr (Or.inl ⟨b, u, h1, h2, SLa_cg h3 e1 e2, SLe_cg h4 e2⟩)
  · exact Or.inr (Or.inr (Or.inl ⟨b, u, h1, h2, SLe_cg h3 e2, SLa_cg h4 e1 e2⟩))
  · exact Or.inr (Or.inr (Or.inr ⟨b, u, h1, h2, SLa_cg h3 e1 e2, SLa_cg h4 e1 e2⟩))
theorem SLS_0 (G : GG) (b : Nat → Nat) : SLS G (b 0) (W_S0 G b S00) Md0 := Or.inl ⟨b, S00, rfl, rfl, rfl, rfl⟩
/-- keep, by what the slots held -/
theorem r_and31 (y : Int32) : ∃ j : Nat, j < 32 ∧ y &&& 31 = nI j := by
  have h : (y &&& 31).toBitVec.toNat < 32 := by
    rw [Int32.toBitVec_and, BitVec.toNat_and]
    exact Nat.lt_of_le_of_lt Nat.and_le_right (by decide)
  refine ⟨(y &&& 31).toBitVec.toNat, h, ?_⟩
  apply Int32.toBitVec_inj.mp
  apply BitVec.eq_of_toNat_eq
  show _ = (BitVec.ofNat 32 _).toNat
  rw [BitVec.toNat_ofNat, Nat.mod_eq_of_lt (by omega)]

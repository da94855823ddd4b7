/-! ===== PURE 42: every call, both sides ===== -/
section CS
variable {V : V_Fd} {M : V_Md}
theorem DONE_call {fc : Option (Int32 × V_Fd)} {fm : Option (Int32 × V_Md)} (h : ALL V M) (C : CALL V M fc fm) : DONE M fc fm := by
  obtain ⟨-, -, m, hm, hp⟩ := h
  obtain ⟨a, V', M', c1, c2, c3, c4, c5, c6, c7, c8, c9⟩ := C
  refine ⟨a, V', M', c1, c2, ⟨c8, c9, m, hm, ?_⟩, ?_, ?_⟩
  · rw [c4, c7]
    exact hp
  · rw [c7]
  · rw [c7]
theorem cs_begin (h : ALL V M) : DONE M (f_Fd_begin V) (f_Md_begin M) := by
  obtain ⟨⟨n, s, I, R⟩, hh, -⟩ := id h
  exact DONE_call h (call_of I R hh (M_begin (s_begin I R)))
theorem cs_write (h : ALL V M) (x y z : Int32) : DONE M (f_Fd_write x y z V) (f_Md_write x y z M) := by
  obtain ⟨⟨n, s, I, R⟩, hh, -⟩ := id h
  exact DONE_call h (call_of I R hh (M_write (s_write I R x y z)))
theorem cs_finish (h : ALL V M) (x : Int32) : DONE M (f_Fd_finish x V) (f_Md_finish x M) := by
  obtain ⟨⟨n, s, I, R⟩, hh, -⟩ := id h
  exact DONE_call h (call_of I R hh (M_finish (s_finish I R x)))
theorem cs_tear (h : ALL V M) (x : Int32) : DONE M (f_Fd_tear x V) (f_Md_tear x M) := by
  obtain ⟨⟨n, s, I, R⟩, hh, -⟩ := id h
  exact DONE_call h (call_of I R hh (M_tear (s_tear I R x)))
theorem cs_save (h : ALL V M) (x : Int32) : DONE M (f_Fd_save x V) (f_Md_save x M) := by
  obtain ⟨⟨n, s, I, R⟩, hh, -⟩ := id h
  exact DONE_call h (call_of I R hh (M_save (s_save I R x)))
theorem cs_putAway (h : ALL V M) (x : Int32) : DONE M (f_Fd_putAway x V) (f_Md_putAway x M) := by
  obtain ⟨⟨n, s, I, R⟩, hh, -⟩ := id h
  exact DONE_call h (call_of I R hh (M_putAway (s_put I R x)))
theorem cs_flood (h : ALL V M) : DONE M (f_Fd_flood V) (f_Md_flood M) := by
  obtain ⟨⟨n, s, I, R⟩, hh, -⟩ := id h
  exact DONE_call h (call_of I R hh (M_flood I R))
theorem cs_blur (h : ALL V M) (x : Int32) : DONE M (f_Fd_blur x V) (f_Md_blur x M) := by
  obtain ⟨⟨n, s, I, R⟩, hh, -⟩ := id h
  exact DONE_call h (call_of I R hh (s_blur I R x))
theorem cs_mend (h : ALL V M) (x : Int32) : DONE M (f_Fd_mend x V) (f_Md_mend x M) := by
  obtain ⟨⟨n, s, I, R⟩, hh, -⟩ := id h
  exact DONE_call h (call_of I R hh (s_mend I R x))
theorem cs_undo (h : ALL V M) : DONE M (f_Fd_undo V) (f_Md_undo M) := by
  obtain ⟨⟨n, s, I, R⟩, hh, -⟩ := id h
  exact DONE_call h (s_undo I R hh)
theorem cs_ofPage (h : ALL V M) (x y : Int32) : ∃ a, f_Fd_ofPage x y V = some a ∧ f_Md_ofPage x y M = some a := by
  obtain ⟨⟨n, s, I, R⟩, hh, -⟩ := h
  obtain ⟨a, h1, h2⟩ := s_ofPage I R rfl x y
  refine ⟨a, ?_, h2⟩
  unfold f_Fd_ofPage
  rw [h1, oc_s]
theorem cs_ofWork (h : ALL V M) (x y : Int32) : ∃ a, f_Fd_ofWork x y V = some a ∧ f_Md_ofWork x y M = some a := by
  obtain ⟨⟨n, s, I, R⟩, hh, -⟩ := h
  obtain ⟨a, h1, h2⟩ := s_ofWork I R rfl x y
  refine ⟨a, ?_, h2⟩
  unfold f_Fd_ofWork
  rw [h1, oc_s]
theorem cs_ofEntry (h : ALL V M) (x y : Int32) : ∃ a, f_Fd_ofEntry x y V = some a ∧ f_Md_ofEntry x y M = some a := by
  obtain ⟨⟨n, s, I, R⟩, hh, -⟩ := h
  obtain ⟨a, h1, h2⟩ := s_ofEntry I R rfl x y
  refine ⟨a, ?_, h2⟩
  unfold f_Fd_ofEntry
  rw [h1, oc_s]
theorem cs_count (h : ALL V M) (x : Int32) : ∃ a, f_Fd_count x V = some a ∧ f_Md_count x M = some a := by
  obtain ⟨⟨n, s, I, R⟩, ⟨a, c, -, -, -, h1, h2, -⟩, m, hm, p1, p2, -⟩ := h
  exact s_count I R rfl (p1.trans p2.symm) (Eq.trans (b := nI c) h1 h2.symm) x
theorem cs_firstNeeded (h : ALL V M) : ∃ a, f_Fd_firstNeeded V = some a ∧ f_Md_firstNeeded M = some a := by
  obtain ⟨⟨n, s, I, R⟩, hh, -⟩ := h
  refine ⟨_, ?_, r_first I R rfl⟩
  unfold f_Fd_firstNeeded
  rw [c_lowest I, oc_s]
theorem cs_stepsToMend (h : ALL V M) : DONE M (f_Fd_stepsToMend V) (f_Md_stepsToMend M) := by
  obtain ⟨⟨n, s, I, R⟩, hh, hp⟩ := h
  obtain ⟨a, w, f', h1, h2⟩ := s_stepsToMend I R (M := M) rfl
  exact ⟨a, _, _, h1, h2, ⟨⟨n, s, I, R⟩, hh, hp⟩, rfl, rfl⟩
theorem cs_wouldBe (h : ALL V M) (x : Int32) : DONE M (f_Fd_wouldBe x V) (f_Md_wouldBe x M) := by
  obtain ⟨⟨n, s, I, R⟩, hh, hp⟩ := h
  obtain ⟨a, w, f', h1, h2⟩ := s_wouldBe I R (M := M) rfl x
  exact ⟨a, _, _, h1, h2, ⟨⟨n, s, I, R⟩, hh, hp⟩, rfl, rfl⟩
theorem cs_settled (h : ALL V M) (x : Int32) : ∃ a V', f_Fd_settled x V = some (a, V') ∧ f_Md_settled x M = some a ∧ ALL V' M := by
  obtain ⟨⟨n, s, I, R⟩, hh, hp⟩ := h
  obtain ⟨a, w, h1, h2⟩ := s_settled I R (M := M) rfl x
  exact ⟨a, _, h1, h2, ⟨n, s, I, R⟩, hh, hp⟩
theorem cs_put (h : ALL V M) (x : Int64) : DONE M (f_Fd_put x V) (f_Md_put x M) := by
  obtain ⟨h1, hh, m, hm, hp⟩ := h
  obtain ⟨a, P', T', len', m', g1, g2, g3, g4⟩ := s_put_text hm hp x
  exact ⟨a, _, _, g1, g2, ⟨h1, hh, m', g3, g4⟩, rfl, rfl⟩
theorem cs_wipe (h : ALL V M) : DONE M (f_Fd_wipe V) (f_Md_wipe M) := by
  obtain ⟨h1, hh, m, hm, hp⟩ := h
  obtain ⟨g1, g2, g3⟩ := s_wipe hp
  exact ⟨_, _, _, g1, g2, ⟨h1, hh, 0, by omega, g3⟩, rfl, rfl⟩
end CS

/-! ===== CORE 2: what a constructor makes ===== -/
def qC (G : GG) {S : Type} (A : Nat → Prop) (W0 : S → va_W) (ad : S → Nat) (h0 : Nat) : Array Value → State → Outcome → State → Prop := va_Qv (S := S) (fun u => ad u = h0) (fun u t => va_P G.1 vwCl (W0 u) t.heap ∧ va_D A (W0 u)) A
def MC {S : Type} (l : Launch) (G : GG) (y : MethodName) (cc : ByteArray) (n : Nat) (rm : Room) (w : va_W) (h0 : Nat) (W0 : S → va_W) (ad : S → Nat) : Prop :=
  ∀ sz : Nat, Met l y (WS y cc n none) rm (pC G sz w [.ref h0]) (qC G (va_A w sz) W0 ad h0) rm.cells rm.slots (va_A w sz)
theorem ofC {S : Type} {l : Launch} {G : GG} {y : MethodName} {cc : ByteArray} {n : Nat} {rm : Room} {w : va_W} {h0 : Nat} {W0 : S → va_W} {ad : S → Nat} (own : String) (hy : plainName y.cls = true) (ho : y.cls = own) (hi : y.name = "<init>") (hn : (lg_sl [.ref h0]).length ≤ n)
    (body : ∀ (p : Program) (e : Env) (s : State) (m : MethodId) (args : Array Value) (below : List Frame) (meth : Method) (c : Code) (A : Nat → Prop) (ls : Array Slot),
      p.tables.exec = Jvm.exec → c.code = cc → meth.sig.returnType = none → c.maxLocals = n → s.vm.findClass own = some m.cls → meth.name = "<init>" → (∀ q ∈ TB, q.before args s = true) → meth.locks = false → va_K G.1 vwCl (tysG G) s → NW s →
      (∀ q : Nat, s.heap.size ≤ q → A q) → va_P G.1 vwCl w s.heap → va_D A w → va_S A s.heap s.heap [] → lv_has ls n (lv_args 0 [.ref h0]) →
      W p l e rm s m args below meth c s.heap [] 0 0 (MQ below (qC G A W0 ad h0) args s rm.cells rm.slots A) (F0 m 0 ls [])) : MC l G y cc n rm w h0 W0 ad := by
  intro sz
  refine Met.ofW (cc := cc) (maxL := n) (ret := none) hy rfl ?_
  intro p e s m args below meth c s₁ B hml hv
  obtain ⟨rfl, hsz, hP, hK, hN, hD0⟩ := hv
  subst hsz
  have hts := atoms_spec (ws := WS y cc n none) B.pre
  have hown : s.vm.findClass own = some m.cls := ho ▸ findClass_of_methodNamed B.named
  have hin : meth.name = "<init>" := (name_of_methodNamed B.named B.method).1.trans hi
  have hl := lv_entry [.ref h0] (n := n) hn
  rw [lg_entry_eq]
  exact body p e s m _ below meth c (va_A w s.heap.size) _ B.exec B.bytes B.returns hml hown hin (fun q hq => hts q (List.mem_cons_of_mem _ hq)) B.notSynchronized hK hN (fun q h => Or.inr h) hP hD0.self va_S.rf hl
theorem vP_swap {D : va_G} {cl : List vw_C} {x y : va_W} {a : Nat} {cA : ClassId} {e e' : vp_A} {H : Heap} (h : va_P D cl (x ++ ((a, .inl (cA, e)) :: y)) H) (he : vp_cell cA e = vp_cell cA e') : va_P D cl (x ++ ((a, .inl (cA, e')) :: y)) H := by
  refine vP_iff.mpr fun q hq => ?_
  have g := vP_iff.mp h
  rcases List.mem_append.mp hq with h1 | h1
  · exact g q (List.mem_append_left _ h1)
  · rcases List.mem_cons.mp h1 with rfl | h1
    · have h2 := g (a, .inl (cA, e)) (List.mem_append_right _ List.mem_cons_self)
      exact Eq.trans h2 (congrArg some he)
    · exact g q (List.mem_append_right _ (List.mem_cons_of_mem _ h1))
theorem vD_same {A : Nat → Prop} {ws ws' : va_W} (h : va_D A ws) (e : ws.map (fun q => q.1) = ws'.map (fun q => q.1)) : va_D A ws' := by
  have key : ∀ (k : Nat) (q : Nat × va_E), ws'[k]? = some q → ∃ q0, ws[k]? = some q0 ∧ q0.1 = q.1 := by
    intro k q hk
    have h1 : (ws.map (fun q => q.1))[k]? = some q.1 := by rw [e, List.getElem?_map, hk]; rfl
    rw [List.getElem?_map] at h1
    cases hw : ws[k]? with
    | none => rw [hw] at h1; cases h1
    | some q0 => rw [hw] at h1; exact ⟨q0, rfl, Option.some.inj h1⟩
  refine ⟨fun i j p q hi hj hpq => ?_, fun k q hk => ?_⟩
  · obtain ⟨p0, h1, h2⟩ := key i p hi
    obtain ⟨q0, h3, h4⟩ := key j q hj
    exact h.1 i j p0 q0 h1 h3 (h2.trans (hpq.trans h4.symm))
  · obtain ⟨q0, h1, h2⟩ := key k q hk
    rw [← h2]; exact h.2 k q0 h1
theorem cellQ {cA : ClassId} {n : Nat} {f g : Nat → Option Nat} (h : ∀ j, j < n → f j = g j) : vp_cell cA (n, .inr (.inr (.inr (.inr f)))) = vp_cell cA (n, .inr (.inr (.inr (.inr g)))) := by
  rw [vp_cell_q, vp_cell_q]
  unfold arrV
  congr 1
  apply Array.ext
  · simp
  · intro i h1 h2
    simp only [Array.getElem_ofFn]
    rw [h i (by simpa using h1)]
section KC2
variable {p : Program} {l : Launch} {e : Env} {R : Room} {s : State} {m : MethodId} {args : Array Value} {below : List Frame} {meth : Method} {c : Code} {H : Heap} {locs : List Loc} {cells slots : Nat} {Q : State → Prop}
variable {cc : ByteArray} {pc : Nat} {ls : Array Slot} {G : GG} {A : Nat → Prop} {H0 : Heap} {own : String} {nL : Nat}
theorem kC {S : Type} {W0 : S → va_W} {ad : S → Nat} {h0 : Nat} {u : S} (hx : p.tables.exec = Jvm.exec) (hb : c.code = cc) (hr : meth.sig.returnType = none) (hlk : meth.locks = false) (hP : va_P G.1 vwCl (W0 u) H) (hD : va_D A (W0 u)) (hS : va_S A s.heap H locs) (hu : ad u = h0) (hdg : decode cc pc = .ok (.return_, 1)) :
    W p l e R s m args below meth c H locs cells slots (MQ below (qC G A W0 ad h0) args s cells slots A) (F0 m pc ls []) :=
  W.vret hx hb hr (fun t ht hW => ⟨⟨u, rfl, hu, by rw [ht]; exact hP, hD⟩, hS.F ht⟩) hS.2.2 hdg hlk
theorem kcI {S : Type} {W0 : S → va_W} {ad : S → Nat} (hx : p.tables.exec = Jvm.exec) (hb : c.code = cc) (hml : c.maxLocals = nL) (hown : s.vm.findClass own = some m.cls) (hts : ∀ q ∈ TB, q.before args s = true) (hK : va_K G.1 vwCl (tysG G) s) (hN : NW s) (hA : ∀ q, H0.size ≤ q → A q)
    {ws wc wr : va_W} (hP : va_P G.1 vwCl ws H) (hD : va_D A ws) (hS : va_S A H0 H locs)
    {y : MethodName} {bytes : ByteArray} {maxL index : Nat} {rm : Room} {b : Nat} {rest st0 : List Value}
    (hM : MC l G y bytes maxL rm wc b W0 ad) (F : Cond.instanceMethod y ∈ TB ∧ Cond.initialized y.cls ∈ TB ∧ Cond.code y bytes maxL none ∈ TB ∧ y.name = "<init>" ∧ (y.cls ≠ "java/lang/invoke/MethodHandle" ∧ y.cls ≠ "java/lang/invoke/VarHandle") ∧ (parseMethodDescriptor y.desc).map (fun d => d.parameters.length) = some 0) (hl : Cond.methodLink own index y ∈ TB) (hR : rm.frames + 1 ≤ R.frames ∧ 8 + (maxL + 11) + rm.locals ≤ R.locals) (p1 : ws.Perm (wc ++ wr))
    (hst : st0 = .ref b :: rest) (hw : (rest.map fun v => v.category).sum ≤ 8) (hls : ls.size = nL) (hdg : decode cc pc = .ok (.invokespecial index, 3)) (hf : cells + rm.cells ≤ R.cells ∧ slots + rm.slots ≤ R.slots)
    (kk : ∀ (u : S) (H1 : Heap) (locs1 : List Loc), ad u = b → va_P G.1 vwCl (wr ++ W0 u) H1 → va_D A (wr ++ W0 u) → va_S A H0 H1 locs1 → W p l e R s m args below meth c H1 locs1 (cells + rm.cells) (slots + rm.slots) Q (F0 m (pc + 3) ls rest)) :
    W p l e R s m args below meth c H locs cells slots Q (F0 m pc ls st0) := by
  have hPc := vP_left (vP_perm p1 hP)
  have hDc := vD_left (vD_perm p1 hD)
  obtain ⟨f1, f3, f4, f5, f6, f7⟩ := F
  have hrun := va_runI (R := R) (H := H) (locs := locs) (cells := cells) (slots := slots) (meth := meth) (e := e) (below := below) (b := b) (As := []) (rest := rest) (index := index) (n := 0) (g := F0 m pc ls st0) ⟨hx, hb, hml, hown, hts⟩ (hM H.size)
    (⟨callB_of 0 hts (WS_good f4) rfl rfl rfl (hts _ f3) (hts _ hl) ⟨f6.1, f6.2, f7⟩ hR, f5, hts _ f1⟩ : CallB R s args own index y bytes maxL none (WS y bytes maxL none) rm rm.cells rm.slots 0 ∧ y.name = "<init>" ∧ (Cond.instanceMethod y).before args s = true)
    (kPre hK hN hPc hDc) rfl rfl hls hst (lv_room hw) hdg hf
  exact va_callv hrun hS (fun q _ h => fr_free hD p1 hS hA q h) (fr_free hD p1 hS hA) (fun u t H1 locs1 ht hvm hw1 hB hz hk hS1 => by
    obtain ⟨hP1, hD1⟩ := hB
    rw [ht] at hP1
    obtain ⟨hP2, hD2⟩ := fr_join (ws' := wr ++ W0 u) hP hD p1 List.perm_append_comm hk (fr_free hD p1 hS hA) hP1 hD1
    exact kk u H1 locs1 hw1 hP2 hD2 hS1)
theorem kcIN {S : Type} {W0 : S → va_W} {ad : S → Nat} (hx : p.tables.exec = Jvm.exec) (hb : c.code = cc) (hml : c.maxLocals = nL) (hown : s.vm.findClass own = some m.cls) (hts : ∀ q ∈ TB, q.before args s = true) (hK : va_K G.1 vwCl (tysG G) s) (hN : NW s) (hA : ∀ q, H0.size ≤ q → A q)
    {ws wc wr : va_W} (hP : va_P G.1 vwCl ws H) (hD : va_D A ws) (hS : va_S A H0 H locs)
    {y : MethodName} {bytes : ByteArray} {maxL index : Nat} {rm : Room} {b : Nat} {rest st0 : List Value}
    (hM : MC l G y bytes maxL rm wc b W0 ad) (F : Cond.instanceMethod y ∈ TB ∧ Cond.initialized y.cls ∈ TB ∧ Cond.code y bytes maxL none ∈ TB ∧ y.name = "<init>" ∧ (y.cls ≠ "java/lang/invoke/MethodHandle" ∧ y.cls ≠ "java/lang/invoke/VarHandle") ∧ (parseMethodDescriptor y.desc).map (fun d => d.parameters.length) = some 0) (hl : (own, index, y, "FloodDiary") ∈ nsM) (hR : rm.frames + 1 ≤ R.frames ∧ 8 + (maxL + 11) + rm.locals ≤ R.locals) (p1 : ws.Perm (wc ++ wr))
    (hst : st0 = .ref b :: rest) (hw : (rest.map fun v => v.category).sum ≤ 8) (hls : ls.size = nL) (hdg : decode cc pc = .ok (.invokespecial index, 3)) (hf : cells + rm.cells ≤ R.cells ∧ slots + rm.slots ≤ R.slots)
    (kk : ∀ (u : S) (H1 : Heap) (locs1 : List Loc), ad u = b → va_P G.1 vwCl (wr ++ W0 u) H1 → va_D A (wr ++ W0 u) → va_S A H0 H1 locs1 → W p l e R s m args below meth c H1 locs1 (cells + rm.cells) (slots + rm.slots) Q (F0 m (pc + 3) ls rest)) :
    W p l e R s m args below meth c H locs cells slots Q (F0 m pc ls st0) := by
  have hPc := vP_left (vP_perm p1 hP)
  have hDc := vD_left (vD_perm p1 hD)
  obtain ⟨f1, f3, f4, f5, f6, f7⟩ := F
  have hrun := va_runIN (R := R) (H := H) (locs := locs) (cells := cells) (slots := slots) (meth := meth) (e := e) (below := below) (b := b) (As := []) (rest := rest) (index := index) (n := 0) (host := "FloodDiary") (g := F0 m pc ls st0) ⟨hx, hb, hml, hown, hts⟩ (hM H.size)
    (⟨va_cnB 0 hts (WS_good f4) rfl rfl rfl (hN.2.1 _ hl) (hts _ f3) ⟨f6.1, f6.2, f7⟩ hR, f5, hts _ f1⟩ : va_CN R s args own index y "FloodDiary" bytes maxL none (WS y bytes maxL none) rm rm.cells rm.slots 0 ∧ y.name = "<init>" ∧ (Cond.instanceMethod y).before args s = true)
    (kPre hK hN hPc hDc) rfl rfl hls hst (lv_room hw) hdg hf
  exact va_callv hrun hS (fun q _ h => fr_free hD p1 hS hA q h) (fr_free hD p1 hS hA) (fun u t H1 locs1 ht hvm hw1 hB hz hk hS1 => by
    obtain ⟨hP1, hD1⟩ := hB
    rw [ht] at hP1
    obtain ⟨hP2, hD2⟩ := fr_join (ws' := wr ++ W0 u) hP hD p1 List.perm_append_comm hk (fr_free hD p1 hS hA) hP1 hD1
    exact kk u H1 locs1 hw1 hP2 hD2 hS1)
theorem knewI (hx : p.tables.exec = Jvm.exec) (hb : c.code = cc) (harr : (Cond.arrayClass .int).before args s = true) {ws : va_W} (hK : va_K G.1 vwCl (tysG G) s) (hP : va_P G.1 vwCl ws H) (hD : va_D A ws) (hS : va_S A H0 H locs) (hA : ∀ q, H0.size ≤ q → A q) {rest : List Value}
    {n : Int32} {N' : Nat} (hn : ¬ n < 0) (hN : n.toNatClampNeg = N') (hbytes : N' * 4 ≤ 536870912) (hcells : cells + 1 ≤ R.cells) (hslots : slots + N' ≤ R.slots) (hdg : decode cc pc = .ok (.newarray .int, 2))
    (kk : ∀ (q : Nat) (H1 : Heap), va_P G.1 vwCl (ws ++ [(q, .inl (G.2.1, N', .inl (fun _ => 0)))]) H1 → va_D A (ws ++ [(q, .inl (G.2.1, N', .inl (fun _ => 0)))]) → va_S A H0 H1 locs →
      W p l e R s m args below meth c H1 locs (cells + 1) (slots + N') Q (F0 m (pc + 2) ls (.ref q :: rest))) : W p l e R s m args below meth c H locs cells slots Q (F0 m pc ls (.int n :: rest)) := by
  refine va_newa (atype := .int) (ty := .int) (a0 := (N', .inl (fun _ => 0))) hx hb harr rfl hK hP hD hS hA (fun _ => rfl) hn hN hbytes hcells hslots hdg (fun q cA H1 hK1 hP1 hD1 hS1 => ?_)
  have e1 : s.vm.findClass ("[" ++ (FieldType.int).toString) = some cA := (hK1.2 4 (cA, .int) rfl).2
  have e2 : s.vm.findClass ("[" ++ (FieldType.int).toString) = some G.2.1 := (hK.2 0 (G.2.1, .int) rfl).2
  have e3 : cA = G.2.1 := Option.some.inj (e1.symm.trans e2)
  subst e3
  exact kk q H1 hP1 hD1 hS1
theorem knewC (hx : p.tables.exec = Jvm.exec) (hb : c.code = cc) (harr : (Cond.arrayClass .char).before args s = true) {ws : va_W} (hK : va_K G.1 vwCl (tysG G) s) (hP : va_P G.1 vwCl ws H) (hD : va_D A ws) (hS : va_S A H0 H locs) (hA : ∀ q, H0.size ≤ q → A q) {rest : List Value}
    {n : Int32} {N' : Nat} (hn : ¬ n < 0) (hN : n.toNatClampNeg = N') (hbytes : N' * componentBytes .char ≤ 536870912) (hcells : cells + 1 ≤ R.cells) (hslots : slots + N' ≤ R.slots) (hdg : decode cc pc = .ok (.newarray .char, 2))
    (kk : ∀ (q : Nat) (H1 : Heap), va_P G.1 vwCl (ws ++ [(q, .inl (G.2.2.1, N', .inl (fun _ => 0)))]) H1 → va_D A (ws ++ [(q, .inl (G.2.2.1, N', .inl (fun _ => 0)))]) → va_S A H0 H1 locs →
      W p l e R s m args below meth c H1 locs (cells + 1) (slots + N') Q (F0 m (pc + 2) ls (.ref q :: rest))) : W p l e R s m args below meth c H locs cells slots Q (F0 m pc ls (.int n :: rest)) := by
  refine va_newa (atype := .char) (ty := .char) (a0 := (N', .inl (fun _ => 0))) hx hb harr rfl hK hP hD hS hA (fun _ => rfl) hn hN hbytes hcells hslots hdg (fun q cA H1 hK1 hP1 hD1 hS1 => ?_)
  have e1 : s.vm.findClass ("[" ++ (FieldType.char).toString) = some cA := (hK1.2 4 (cA, .char) rfl).2
  have e2 : s.vm.findClass ("[" ++ (FieldType.char).toString) = some G.2.2.1 := (hK.2 1 (G.2.2.1, .char) rfl).2
  have e3 : cA = G.2.2.1 := Option.some.inj (e1.symm.trans e2)
  subst e3
  exact kk q H1 hP1 hD1 hS1
theorem knewZ (hx : p.tables.exec = Jvm.exec) (hb : c.code = cc) (harr : (Cond.arrayClass .boolean).before args s = true) {ws : va_W} (hK : va_K G.1 vwCl (tysG G) s) (hP : va_P G.1 vwCl ws H) (hD : va_D A ws) (hS : va_S A H0 H locs) (hA : ∀ q, H0.size ≤ q → A q) {rest : List Value}
    {n : Int32} {N' : Nat} (hn : ¬ n < 0) (hN : n.toNatClampNeg = N') (hbytes : N' * componentBytes .boolean ≤ 536870912) (hcells : cells + 1 ≤ R.cells) (hslots : slots + N' ≤ R.slots) (hdg : decode cc pc = .ok (.newarray .boolean, 2))
    (kk : ∀ (q : Nat) (H1 : Heap), va_P G.1 vwCl (ws ++ [(q, .inl (G.2.2.2.1, N', .inl (fun _ => 0)))]) H1 → va_D A (ws ++ [(q, .inl (G.2.2.2.1, N', .inl (fun _ => 0)))]) → va_S A H0 H1 locs →
      W p l e R s m args below meth c H1 locs (cells + 1) (slots + N') Q (F0 m (pc + 2) ls (.ref q :: rest))) : W p l e R s m args below meth c H locs cells slots Q (F0 m pc ls (.int n :: rest)) := by
  refine va_newa (atype := .boolean) (ty := .boolean) (a0 := (N', .inl (fun _ => 0))) hx hb harr rfl hK hP hD hS hA (fun _ => rfl) hn hN hbytes hcells hslots hdg (fun q cA H1 hK1 hP1 hD1 hS1 => ?_)
  have e1 : s.vm.findClass ("[" ++ (FieldType.boolean).toString) = some cA := (hK1.2 4 (cA, .boolean) rfl).2
  have e2 : s.vm.findClass ("[" ++ (FieldType.boolean).toString) = some G.2.2.2.1 := (hK.2 2 (G.2.2.2.1, .boolean) rfl).2
  have e3 : cA = G.2.2.2.1 := Option.some.inj (e1.symm.trans e2)
  subst e3
  exact kk q H1 hP1 hD1 hS1
theorem knewQ (hx : p.tables.exec = Jvm.exec) (hb : c.code = cc) {index : Nat} (hown : s.vm.findClass own = some m.cls) (hclink : (Cond.classLink own index "FloodDiary$State").before args s = true) (hover : va_AO "FloodDiary$State" s) {ws : va_W} (hK : va_K G.1 vwCl (tysG G) s) (hP : va_P G.1 vwCl ws H) (hD : va_D A ws) (hS : va_S A H0 H locs) (hA : ∀ q, H0.size ≤ q → A q) {rest : List Value}
    {n : Int32} {N' : Nat} (hn : ¬ n < 0) (hN : n.toNatClampNeg = N') (hbytes : N' * 4 ≤ 536870912) (hcells : cells + 1 ≤ R.cells) (hslots : slots + N' ≤ R.slots) (hdg : decode cc pc = .ok (.anewarray index, 3))
    (kk : ∀ (q : Nat) (H1 : Heap), va_P G.1 vwCl (ws ++ [(q, .inl (G.2.2.2.2, N', .inr (.inr (.inr (.inr (fun _ => none))))))]) H1 → va_D A (ws ++ [(q, .inl (G.2.2.2.2, N', .inr (.inr (.inr (.inr (fun _ => none))))))]) → va_S A H0 H1 locs →
      W p l e R s m args below meth c H1 locs (cells + 1) (slots + N') Q (F0 m (pc + 3) ls (.ref q :: rest))) : W p l e R s m args below meth c H locs cells slots Q (F0 m pc ls (.int n :: rest)) := by
  refine va_newq hx hb hown hclink hover hK hP hD hS hA hn hN hbytes hcells hslots hdg (fun q cA H1 hK1 hP1 hD1 hS1 => ?_)
  have e1 : va_RA s cA (.object "FloodDiary$State") := (hK1.2 4 (cA, .object "FloodDiary$State") rfl).2
  have e2 : va_RA s G.2.2.2.2 (.object "FloodDiary$State") := (hK.2 3 (G.2.2.2.2, .object "FloodDiary$State") rfl).2
  obtain ⟨_, _, _, _, _, e1⟩ := e1
  obtain ⟨_, _, _, _, _, e2⟩ := e2
  have e3 : cA = G.2.2.2.2 := Option.some.inj (e1.symm.trans e2)
  subst e3
  exact kk q H1 hP1 hD1 hS1
end KC2

/-! constructors: from the world w0 the method ends, in a world w1 of which Post tells; mc cells of ms slots are made -/
def pn_Q (D : va_G) (ty : List (ClassId × FieldType)) (Post : va_W → Prop) (A : Nat → Prop) : Array Value → State → Outcome → State → Prop := fun _ st oc t => oc = .returned none ∧ (∃ w1, Post w1 ∧ pw_B D ty A w1 t) ∧ va_F A st t
def MN (l : Launch) (y : MethodName) (wy : List Cond) (rm : Room) (D : va_G) (ty : List (ClassId × FieldType)) (F : (Nat → Prop) → State → Prop) (w0 : va_W) (av : List Value) (mc ms : Nat) (Post : va_W → Prop) : Prop :=
  ∀ sz : Nat, Met l y wy rm (va_Pc av (pw_P D ty F w0 sz)) (pn_Q D ty Post (va_A w0 sz)) mc ms (va_A w0 sz)
def rmC (k mc ms : Nat) : Room := { frames := 4 * k, cells := mc, slots := ms, locals := 60 * k }
/-- rows of objects may be made -/
def pFk : (Nat → Prop) → State → Prop := fun _ U => va_AO "PigRounds$Kind" U ∧ va_AO "PigRounds$Sheet" U
theorem pFk_ok : pF_ok pFk := by
  refine ⟨fun _ _ s U _ hW _ h => ⟨va_AO.moved hW.alike h.1, va_AO.moved hW.alike h.2⟩, fun _ u U hv _ h => ?_⟩
  have ha : u.vm.Alike U.vm := by rw [hv]; exact Vm.Alike.refl u.vm
  exact ⟨va_AO.moved ha h.1, va_AO.moved ha h.2⟩
section MadeRows
variable {p : Program} {l : Launch} {e : Env} {R : Room} {s : State} {m : MethodId} {args : Array Value} {below : List Frame} {meth : Method} {c : Code} {H : Heap} {locs : List Loc} {cells slots : Nat} {Q : State → Prop}
variable {D : va_G} {ty : List (ClassId × FieldType)} {F : (Nat → Prop) → State → Prop} {A : Nat → Prop} {cc : ByteArray} {pc : Nat} {ls : Array Slot} {rest : List Value}
theorem mn_intro {y : MethodName} {wy wy' : List Cond} {rm : Room} {w0 : va_W} {av : List Value} {mc ms : Nat} {Post : va_W → Prop} {maxL : Nat} {ret : Option FieldType}
    (hy : plainName y.cls = true) (hyn : y.name = "<init>") (hw : wy = Cond.code y cc maxL ret :: wy') (hlen : (lg_sl av).length ≤ maxL)
    (body : ∀ (p : Program) (e : Env) (s : State) (m : MethodId) (below : List Frame) (meth : Method) (c : Code) (A : Nat → Prop) (ls : Array Slot) (H : Heap) (locs : List Loc) (Qm : State → Prop), Qm = MQ below (pn_Q D ty Post A) av.toArray s mc ms A → p.tables.exec = Jvm.exec → c.code = cc → meth.sig.returnType = ret → c.maxLocals = maxL → (∀ w ∈ wy, w.before av.toArray s = true) → s.vm.findClass y.cls = some m.cls → meth.locks = false → meth.name = "<init>" → (∀ q : Nat, s.heap.size ≤ q → A q) → va_S A s.heap H locs → va_P D vwCl w0 H → va_K D vwCl ty s → va_D A w0 → F A s → lv_has ls maxL (lv_args 0 av) →
      W p l e rm s m av.toArray below meth c H locs 0 0 Qm (F0 m 0 ls [])) : MN l y wy rm D ty F w0 av mc ms Post := by
  intro sz
  refine Met.ofW (cc := cc) (maxL := maxL) (ret := ret) hy hw ?_
  intro p e s m args below meth c s₁ B hml hv
  obtain ⟨rfl, hsz, hP, hK, hD0, hF⟩ := hv
  have hl := lv_entry av (n := maxL) hlen
  have hin : meth.name = "<init>" := by rw [← hyn]; exact (name_of_methodNamed B.named B.method).1
  rw [lg_entry_eq]
  generalize (lg_sl av ++ List.replicate (maxL - (lg_sl av).length) Slot.unset).toArray = ls at hl ⊢
  exact body p e s m below meth c (va_A w0 sz) ls s.heap [] _ rfl B.exec B.bytes B.returns hml (atoms_spec (ws := wy) B.pre) (findClass_of_methodNamed B.named) B.notSynchronized hin (fun q h => Or.inr (by rw [← hsz]; exact h)) va_S.rf hP hK hD0.self hF hl
theorem mn_ret {Post : va_W → Prop} {w1 : va_W} (hx : p.tables.exec = Jvm.exec) (hb : c.code = cc) (hr : meth.sig.returnType = none) (hlocks : meth.locks = false) (hK : va_K D vwCl ty s) (hS : va_S A s.heap H locs) (hpost : Post w1) (hP : va_P D vwCl w1 H) (hD : va_D A w1) (hdg : decode cc pc = .ok (.return_, 1)) :
    W p l e R s m args below meth c H locs cells slots (MQ below (pn_Q D ty Post A) args s cells slots A) (F0 m pc ls []) :=
  W.vret hx hb hr (fun t ht hW => ⟨rfl, ⟨w1, hpost, by rw [ht]; exact hP, va_K.moved hW.alike hK, hD⟩, hS.F ht⟩) hS.2.2 hdg
theorem pn_call {Post : va_W → Prop} {A1 A0 : Nat → Prop} {a : Array Value} {free : Addr → Prop} {H0 : Heap} {st0 : List Value} {mc ms : Nat} (hr : va_Run p l e R s m args below meth c H locs cells slots mc ms (F0 m pc ls st0) rest (pn_Q D ty Post A1 a) free) (hS : va_S A0 H0 H locs) (hA : ∀ q, q < H.size → A1 q → A0 q) (hf : ∀ q, free q → A0 q)
    (kk : ∀ (w1 : va_W) (H1 : Heap) (locs1 : List Loc), Post w1 → va_P D vwCl w1 H1 → va_D A1 w1 → va_S A0 H0 H1 locs1 → W p l e R s m args below meth c H1 locs1 (cells + mc) (slots + ms) Q (F0 m (pc + 3) ls rest)) : W p l e R s m args below meth c H locs cells slots Q (F0 m pc ls st0) := by
  intro T hT X
  obtain ⟨v, st₀, t, T', L, h0, X', hL, e1, e2, ⟨hv, ⟨w1, hw, hP1, -, hD1⟩, hz, hk⟩, st⟩ := hr T hT X
  cases hv
  rw [h0] at hz hk
  obtain ⟨t2, a1, b1⟩ := kk w1 T'.heap (locs ++ L) hw (by rw [e1]; exact hP1) hD1
    ⟨Nat.le_trans hS.1 (by rw [e1]; exact hz), fun q h1 h2 => by rw [e1, hk q (Nat.lt_of_lt_of_le h1 hS.1) (fun z => h2 (hA q (Nat.lt_of_lt_of_le h1 hS.1) z))]; exact hS.2.1 q h1 h2, fun q hq => by
      rcases List.mem_append.mp hq with h | h
      · exact hS.2.2 q h
      · exact hf _ (hL q h)⟩ T' rfl X'
  exact ⟨t2, st t2 a1, b1⟩
theorem mn_call {y : MethodName} {bytes : ByteArray} {maxL nL n index mc ms : Nat} {wy Ts : List Cond} {rm : Room} {own : String} {b : Addr} {As st0 : List Value} {w0 : va_W} {Post : va_W → Prop}
    (X : CallFix p m c cc nL s args Ts own) (hM : MN l y wy rm D ty F w0 (.ref b :: As) mc ms Post) (cw : CallB R s args own index y bytes maxL none wy rm mc ms n ∧ y.name = "<init>" ∧ (Cond.instanceMethod y).before args s = true) (hFk : pF_ok F) (hF : F A s) (hK : va_K D vwCl ty s) (hP : va_P D vwCl w0 H) (hD : va_D A w0) (hS : va_S A s.heap H locs) (hA : ∀ q : Nat, s.heap.size ≤ q → A q)
    (hn : As.length = n) (hsize : ls.size = nL) (hstack : st0 = As.reverse ++ .ref b :: rest) (hW : (rest.map fun v => v.category).sum ≤ 8) (hdg : decode cc pc = .ok (.invokespecial index, 3)) (hf : cells + mc ≤ R.cells ∧ slots + ms ≤ R.slots)
    (kk : ∀ (w1 : va_W) (H1 : Heap) (locs1 : List Loc), Post w1 → va_P D vwCl w1 H1 → va_D A w1 → va_S A s.heap H1 locs1 → W p l e R s m args below meth c H1 locs1 (cells + mc) (slots + ms) Q (F0 m (pc + 3) ls rest)) : W p l e R s m args below meth c H locs cells slots Q (F0 m pc ls st0) := by
  refine pn_call (va_runI (As := As) (rest := rest) X (hM H.size) cw ⟨pw_blind hFk, pw_pre hFk hF hK hP hD hS hA⟩ rfl hn hsize hstack (lv_room hW) hdg hf) hS (fun q _ h => pw_in hD hS hA q h) (pw_in hD hS hA) ?_
  intro w1 H1 locs1 hw hP1 hD1 hS1
  exact kk w1 H1 locs1 hw hP1 (hD1.weaken (fun _ q _ h => pw_in hD hS hA q.1 h)) hS1
theorem mn_frontP {ws : va_W} {x : Nat × va_E} (h : va_P D vwCl (ws ++ [x]) H) : va_P D vwCl ([x] ++ ws) H := gp_P List.perm_append_comm h
theorem mn_frontD {ws : va_W} {x : Nat × va_E} (h : va_D A (ws ++ [x])) : va_D A ([x] ++ ws) := gp_D List.perm_append_comm h
theorem mn_newi {cI cB cK cS : ClassId} (hx : p.tables.exec = Jvm.exec) (hb : c.code = cc) (harr : (Cond.arrayClass .int).before args s = true) (hK : va_K D vwCl (tyX cI cB cK cS) s) {ws : va_W} {H0 : Heap} (hP : va_P D vwCl ws H) (hD : va_D A ws) (hS : va_S A H0 H locs) (hA : ∀ q, H0.size ≤ q → A q)
    {n : Int32} {N : Nat} (hn : ¬ n < 0) (hN : n.toNatClampNeg = N) (hbytes : N * componentBytes .int ≤ 536870912) (hcells : cells + 1 ≤ R.cells) (hslots : slots + N ≤ R.slots) (hdg : decode cc pc = .ok (.newarray .int, 2))
    (kk : ∀ (q : Nat) (H1 : Heap), va_P D vwCl ([(q, .inl (cI, N, .inl (fun _ => 0)))] ++ ws) H1 → va_D A ([(q, .inl (cI, N, .inl (fun _ => 0)))] ++ ws) → va_S A H0 H1 locs →
      W p l e R s m args below meth c H1 locs (cells + 1) (slots + N) Q (F0 m (pc + 2) ls (.ref q :: rest))) : W p l e R s m args below meth c H locs cells slots Q (F0 m pc ls (.int n :: rest)) := by
  refine va_newa (atype := .int) (a0 := (N, .inl (fun _ => 0))) (ty := .int) hx hb harr rfl hK hP hD hS hA (fun cA => rfl) hn hN hbytes hcells hslots hdg (fun q cA H1 hK1 hP1 hD1 hS1 => ?_)
  have h1 : va_RA s cI .int := (hK1.2 0 _ rfl).2
  have h2 : va_RA s cA .int := (hK1.2 4 _ rfl).2
  have hc : cA = cI := Option.some.inj (Eq.trans (Eq.symm h2) h1)
  rw [hc] at hP1 hD1
  exact kk q H1 (mn_frontP hP1) (mn_frontD hD1) hS1
theorem mn_newb {cI cB cK cS : ClassId} (hx : p.tables.exec = Jvm.exec) (hb : c.code = cc) (harr : (Cond.arrayClass .byte).before args s = true) (hK : va_K D vwCl (tyX cI cB cK cS) s) {ws : va_W} {H0 : Heap} (hP : va_P D vwCl ws H) (hD : va_D A ws) (hS : va_S A H0 H locs) (hA : ∀ q, H0.size ≤ q → A q)
    {n : Int32} {N : Nat} (hn : ¬ n < 0) (hN : n.toNatClampNeg = N) (hbytes : N * componentBytes .byte ≤ 536870912) (hcells : cells + 1 ≤ R.cells) (hslots : slots + N ≤ R.slots) (hdg : decode cc pc = .ok (.newarray .byte, 2))
    (kk : ∀ (q : Nat) (H1 : Heap), va_P D vwCl ([(q, .inl (cB, N, .inl (fun _ => 0)))] ++ ws) H1 → va_D A ([(q, .inl (cB, N, .inl (fun _ => 0)))] ++ ws) → va_S A H0 H1 locs →
      W p l e R s m args below meth c H1 locs (cells + 1) (slots + N) Q (F0 m (pc + 2) ls (.ref q :: rest))) : W p l e R s m args below meth c H locs cells slots Q (F0 m pc ls (.int n :: rest)) := by
  refine va_newa (atype := .byte) (a0 := (N, .inl (fun _ => 0))) (ty := .byte) hx hb harr rfl hK hP hD hS hA (fun cA => rfl) hn hN hbytes hcells hslots hdg (fun q cA H1 hK1 hP1 hD1 hS1 => ?_)
  have h1 : va_RA s cB .byte := (hK1.2 1 _ rfl).2
  have h2 : va_RA s cA .byte := (hK1.2 4 _ rfl).2
  have hc : cA = cB := Option.some.inj (Eq.trans (Eq.symm h2) h1)
  rw [hc] at hP1 hD1
  exact kk q H1 (mn_frontP hP1) (mn_frontD hD1) hS1
theorem mn_newq {cI cB cK cS cQ : ClassId} {own C : String} {index : Nat} (k9 : Nat) (hk9 : (tyX cI cB cK cS)[k9]? = some (cQ, .object C)) (hx : p.tables.exec = Jvm.exec) (hb : c.code = cc) (hown : s.vm.findClass own = some m.cls) (hcl : (Cond.classLink own index C).before args s = true) (hov : va_AO C s) (hK : va_K D vwCl (tyX cI cB cK cS) s) {ws : va_W} {H0 : Heap} (hP : va_P D vwCl ws H) (hD : va_D A ws) (hS : va_S A H0 H locs) (hA : ∀ q, H0.size ≤ q → A q)
    {n : Int32} {N : Nat} (hn : ¬ n < 0) (hN : n.toNatClampNeg = N) (hbytes : N * 4 ≤ 536870912) (hcells : cells + 1 ≤ R.cells) (hslots : slots + N ≤ R.slots) (hdg : decode cc pc = .ok (.anewarray index, 3))
    (kk : ∀ (q : Nat) (H1 : Heap), va_P D vwCl ([(q, .inl (cQ, N, .inr (.inr (.inr (.inr (fun _ => none))))))] ++ ws) H1 → va_D A ([(q, .inl (cQ, N, .inr (.inr (.inr (.inr (fun _ => none))))))] ++ ws) → va_S A H0 H1 locs →
      W p l e R s m args below meth c H1 locs (cells + 1) (slots + N) Q (F0 m (pc + 3) ls (.ref q :: rest))) : W p l e R s m args below meth c H locs cells slots Q (F0 m pc ls (.int n :: rest)) := by
  refine va_newq hx hb hown hcl hov hK hP hD hS hA hn hN hbytes hcells hslots hdg (fun q cA H1 hK1 hP1 hD1 hS1 => ?_)
  have h1 : va_RA s cQ (.object C) := (hK.2 k9 _ hk9).2
  have h2 : va_RA s cA (.object C) := (hK1.2 4 _ rfl).2
  obtain ⟨_, _, -, -, -, g1⟩ := h1
  obtain ⟨_, _, -, -, -, g2⟩ := h2
  have hc : cA = cQ := Option.some.inj (g2.symm.trans g1)
  rw [hc] at hP1 hD1
  exact kk q H1 (mn_frontP hP1) (mn_frontD hD1) hS1
/-- a row of references is what its places hold -/
theorem vq_ext {cA : ClassId} {n : Nat} {f g : Nat → Option Nat} (h : ∀ j, j < n → f j = g j) : vp_cell cA (n, .inr (.inr (.inr (.inr f)))) = vp_cell cA (n, .inr (.inr (.inr (.inr g)))) := by
  rw [vp_cell_q, vp_cell_q]
  unfold arrV
  congr 2
  funext j
  show va_rf (f j.val) = va_rf (g j.val)
  rw [h j.val j.isLt]
theorem vq_P {cA : ClassId} {n a : Nat} {f g : Nat → Option Nat} {ws : va_W} (h : ∀ j, j < n → f j = g j) (hP : va_P D vwCl ([(a, .inl (cA, n, .inr (.inr (.inr (.inr f)))))] ++ ws) H) : va_P D vwCl ([(a, .inl (cA, n, .inr (.inr (.inr (.inr g)))))] ++ ws) H := by
  intro k q hk
  match k, hk with
  | 0, hk =>
    cases hk
    have h0 := hP 0 _ rfl
    show H[a]? = some (vp_cell cA (n, .inr (.inr (.inr (.inr g)))))
    rw [← vq_ext h]
    exact h0
  | k + 1, hk => exact hP (k + 1) q hk
theorem vq_D {cA : ClassId} {n a : Nat} {f g : Nat → Option Nat} {ws : va_W} (hD : va_D A ([(a, .inl (cA, n, .inr (.inr (.inr (.inr f)))))] ++ ws)) : va_D A ([(a, .inl (cA, n, .inr (.inr (.inr (.inr g)))))] ++ ws) := by
  have hh : gp_dj ([(a, .inl (cA, n, .inr (.inr (.inr (.inr g)))))] ++ ws) := by
    have h0 := gp_dj_of _ hD
    exact ⟨h0.1, h0.2⟩
  refine ⟨gp_of_dj _ hh, fun k q hk => ?_⟩
  match k, hk with
  | 0, hk =>
    cases hk
    exact hD.2 0 (a, .inl (cA, n, .inr (.inr (.inr (.inr f))))) rfl
  | k + 1, hk => exact hD.2 (k + 1) q hk
end MadeRows
def adr (l : List Nat) : Nat → Nat := fun j => l.getD j 0
def land_f0 : Nat → Int32 := fun j => if j = 4 then 1 else 0
def sheet_v0 : Nat → Int32 := fun j => if j = 1 then 1 else 0

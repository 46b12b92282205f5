/-! contracts of one form: from the world w0 the method answers (rv u0), the world is then (w1 u0); nothing else changes, no cell is made -/
def pw_P (D : va_G) (ty : List (ClassId × FieldType)) (F : (Nat → Prop) → State → Prop) (ws : va_W) (sz : Nat) (U : State) : Prop := U.heap.size = sz ∧ va_P D vwCl ws U.heap ∧ va_K D vwCl ty U ∧ va_D (fun _ => True) ws ∧ F (va_A ws sz) U
def pw_B (D : va_G) (ty : List (ClassId × FieldType)) (A : Nat → Prop) (ws : va_W) (t : State) : Prop := va_P D vwCl ws t.heap ∧ va_K D vwCl ty t ∧ va_D A ws
def pw_Q (rv : Option Value) (B : State → Prop) (A : Nat → Prop) : Array Value → State → Outcome → State → Prop := fun _ st oc t => oc = .returned rv ∧ B t ∧ va_F A st t
/-- what is said of the places that no world holds: it lasts -/
def pF_ok (F : (Nat → Prop) → State → Prop) : Prop := (∀ (A B : Nat → Prop) (s U : State), (∀ q, B q → A q) → s.WarmedH U.vm → (∀ a : Nat, a < s.heap.size → ¬ A a → U.heap[a]? = s.heap[a]?) → F A s → F B U) ∧ ∀ (A : Nat → Prop) (u U : State), U.vm = u.vm → U.heap = u.heap → F A u → F A U
def pF0 : (Nat → Prop) → State → Prop := fun _ _ => True
theorem pF0_ok : pF_ok pF0 := ⟨fun _ _ _ _ _ _ _ _ => trivial, fun _ _ _ _ _ _ => trivial⟩
def MX (l : Launch) (y : MethodName) (wy : List Cond) (rm : Room) (D : va_G) (ty : List (ClassId × FieldType)) (F : (Nat → Prop) → State → Prop) (w0 : va_W) (av : List Value) {S : Type} (u0 : S) (rv : S → Option Value) (w1 : S → va_W) : Prop :=
  ∀ sz : Nat, Met l y wy rm (va_Pc av (pw_P D ty F w0 sz)) (pw_Q (rv u0) (fun t => pw_B D ty (va_A w0 sz) (w1 u0) t) (va_A w0 sz)) 0 0 (va_A w0 sz)
def lt {α β : Type} (v : α) (f : α → β) : β := f v
theorem lt_eq {α β : Type} {v w : α} {f : α → β} {r : β} (h : w = v) (k : f w = r) : lt v f = r := by subst h; exact k
section BaseRows
variable {p : Program} {l : Launch} {e : Env} {R : Room} {s : State} {m : MethodId} {args : Array Value} {below : List Frame} {meth : Method} {c : Code} {H : Heap} {locs : List Loc} {cells slots : Nat} {Q : State → Prop}
variable {D : va_G} {ty : List (ClassId × FieldType)} {F : (Nat → Prop) → State → Prop} {A : Nat → Prop} {cc : ByteArray} {pc : Nat} {ls : Array Slot} {rest : List Value}
theorem mx_intro {y : MethodName} {wy wy' : List Cond} {rm : Room} {w0 : va_W} {av : List Value} {S : Type} {u0 : S} {rv : S → Option Value} {w1 : S → va_W} {maxL : Nat} {ret : Option FieldType}
    (hy : plainName y.cls = true) (hw : wy = Cond.code y cc maxL ret :: wy') (hlen : (lg_sl av).length ≤ maxL)
    (body : ∀ (p : Program) (e : Env) (s : State) (m : MethodId) (below : List Frame) (meth : Method) (c : Code) (A : Nat → Prop) (ls : Array Slot) (H : Heap) (locs : List Loc) (Qm : State → Prop), Qm = MQ below (pw_Q (rv u0) (fun t => pw_B D ty A (w1 u0) t) A) av.toArray s 0 0 A → p.tables.exec = Jvm.exec → c.code = cc → meth.sig.returnType = ret → c.maxLocals = maxL → (∀ w ∈ wy, w.before av.toArray s = true) → s.vm.findClass y.cls = some m.cls → meth.locks = false → (∀ q : Nat, s.heap.size ≤ q → A q) → va_S A s.heap H locs → va_P D vwCl w0 H → va_K D vwCl ty s → va_D A w0 → F A s → lv_has ls maxL (lv_args 0 av) →
      W p l e rm s m av.toArray below meth c H locs 0 0 Qm (F0 m 0 ls [])) : MX l y wy rm D ty F w0 av u0 rv w1 := by
  intro sz
  refine Met.ofW (cc := cc) (maxL := maxL) (ret := ret) hy hw ?_
  intro p e s m args below meth c s₁ B hml hv
  obtain ⟨rfl, hsz, hP, hK, hD0, hF⟩ := hv
  have hl := lv_entry av (n := maxL) hlen
  rw [lg_entry_eq]
  generalize (lg_sl av ++ List.replicate (maxL - (lg_sl av).length) Slot.unset).toArray = ls at hl ⊢
  exact body p e s m below meth c (va_A w0 sz) ls s.heap [] _ rfl B.exec B.bytes B.returns hml (atoms_spec (ws := wy) B.pre) (findClass_of_methodNamed B.named) B.notSynchronized (fun q h => Or.inr (by rw [← hsz]; exact h)) va_S.rf hP hK hD0.self hF hl
theorem mx_iret {S : Type} {u0 u : S} {rv : S → Option Value} {w1 : S → va_W} {v : Int32} (hx : p.tables.exec = Jvm.exec) (hb : c.code = cc) (hr : meth.sig.returnType = some .int) (hlocks : meth.locks = false) (hK : va_K D vwCl ty s) (hS : va_S A s.heap H locs) (hu : u0 = u) (hP : va_P D vwCl (w1 u) H) (hD : va_D A (w1 u)) (hv : rv u = some (.int v)) (hdg : decode cc pc = .ok (.ireturn, 1)) :
    W p l e R s m args below meth c H locs 0 0 (MQ below (pw_Q (rv u0) (fun t => pw_B D ty A (w1 u0) t) A) args s 0 0 A) (F0 m pc ls [.int v]) := by
  subst hu
  exact W.iret hx hb hr (fun t ht hW => ⟨by rw [hv], ⟨by rw [ht]; exact hP, va_K.moved hW.alike hK, hD⟩, hS.F ht⟩) hS.2.2 hdg
theorem mx_zret {S : Type} {u0 u : S} {rv : S → Option Value} {w1 : S → va_W} {v : Int32} (hx : p.tables.exec = Jvm.exec) (hb : c.code = cc) (hr : meth.sig.returnType = some .boolean) (hlocks : meth.locks = false) (hK : va_K D vwCl ty s) (hS : va_S A s.heap H locs) (hu : u0 = u) (hP : va_P D vwCl (w1 u) H) (hD : va_D A (w1 u)) (hv : rv u = some (.int v)) (hn : narrow .boolean (.int v) = .int v) (hdg : decode cc pc = .ok (.ireturn, 1)) :
    W p l e R s m args below meth c H locs 0 0 (MQ below (pw_Q (rv u0) (fun t => pw_B D ty A (w1 u0) t) A) args s 0 0 A) (F0 m pc ls [.int v]) := by
  subst hu
  exact W.zret hx hb hr hn (fun t ht hW => ⟨by rw [hv], ⟨by rw [ht]; exact hP, va_K.moved hW.alike hK, hD⟩, hS.F ht⟩) hS.2.2 hdg
theorem mx_lret {S : Type} {u0 u : S} {rv : S → Option Value} {w1 : S → va_W} {v : Int64} (hx : p.tables.exec = Jvm.exec) (hb : c.code = cc) (hr : meth.sig.returnType = some .long) (hlocks : meth.locks = false) (hK : va_K D vwCl ty s) (hS : va_S A s.heap H locs) (hu : u0 = u) (hP : va_P D vwCl (w1 u) H) (hD : va_D A (w1 u)) (hv : rv u = some (.long v)) (hdg : decode cc pc = .ok (.lreturn, 1)) :
    W p l e R s m args below meth c H locs 0 0 (MQ below (pw_Q (rv u0) (fun t => pw_B D ty A (w1 u0) t) A) args s 0 0 A) (F0 m pc ls [.long v]) := by
  subst hu
  exact W.lret hx hb hr (fun t ht hW => ⟨by rw [hv], ⟨by rw [ht]; exact hP, va_K.moved hW.alike hK, hD⟩, hS.F ht⟩) hS.2.2 hdg
theorem mx_vret {S : Type} {u0 u : S} {rv : S → Option Value} {w1 : S → va_W} (hx : p.tables.exec = Jvm.exec) (hb : c.code = cc) (hr : meth.sig.returnType = none) (hlocks : meth.locks = false) (hK : va_K D vwCl ty s) (hS : va_S A s.heap H locs) (hu : u0 = u) (hP : va_P D vwCl (w1 u) H) (hD : va_D A (w1 u)) (hv : rv u = none) (hdg : decode cc pc = .ok (.return_, 1)) :
    W p l e R s m args below meth c H locs 0 0 (MQ below (pw_Q (rv u0) (fun t => pw_B D ty A (w1 u0) t) A) args s 0 0 A) (F0 m pc ls []) := by
  subst hu
  exact W.vret hx hb hr (fun t ht hW => ⟨by rw [hv], ⟨by rw [ht]; exact hP, va_K.moved hW.alike hK, hD⟩, hS.F ht⟩) hS.2.2 hdg
theorem mx_aret {S : Type} {u0 u : S} {rv : S → Option Value} {w1 : S → va_W} {v : Value} {nm : String} (hx : p.tables.exec = Jvm.exec) (hb : c.code = cc) (hr : meth.sig.returnType = some (.object nm)) (hlocks : meth.locks = false) (hK : va_K D vwCl ty s) (hS : va_S A s.heap H locs) (hu : u0 = u) (hP : va_P D vwCl (w1 u) H) (hD : va_D A (w1 u)) (hv : rv u = some v) (hvr : v = .null ∨ ∃ a, v = .ref a) (hdg : decode cc pc = .ok (.areturn, 1)) :
    W p l e R s m args below meth c H locs 0 0 (MQ below (pw_Q (rv u0) (fun t => pw_B D ty A (w1 u0) t) A) args s 0 0 A) (F0 m pc ls [v]) := by
  subst hu
  exact W.aret hx hb hr (Or.inl ⟨_, rfl⟩) hvr (fun t ht hW => ⟨by rw [hv], ⟨by rw [ht]; exact hP, va_K.moved hW.alike hK, hD⟩, hS.F ht⟩) hS.2.2 hdg
theorem pw_call {rv : Option Value} {B : State → Prop} {A1 A0 : Nat → Prop} {a : Array Value} {free : Addr → Prop} {H0 : Heap} {st0 : List Value} (hr : va_Run p l e R s m args below meth c H locs cells slots 0 0 (F0 m pc ls st0) rest (pw_Q rv B A1 a) free) (hS : va_S A0 H0 H locs) (hA : ∀ q, q < H.size → A1 q → A0 q) (hf : ∀ q, free q → A0 q)
    (kk : ∀ (t : State) (H1 : Heap) (locs1 : List Loc), t.heap = H1 → s.vm.Alike t.vm → B t → va_S A0 H0 H1 locs1 → W p l e R s m args below meth c H1 locs1 cells slots Q (F0 m (pc + 3) ls (rv.toList ++ rest))) : W p l e R s m args below meth c H locs cells slots Q (F0 m pc ls st0) := by
  intro T hT X
  obtain ⟨v, st₀, t, T', L, h0, X', hL, e1, e2, ⟨hv, hb, hz, hk⟩, st⟩ := hr T hT X
  cases hv
  rw [h0] at hz hk
  obtain ⟨t2, a1, b1⟩ := kk t T'.heap (locs ++ L) e1.symm (by rw [← e2]; exact X'.warmed.alike) hb
    ⟨Nat.le_trans hS.1 (by rw [e1]; exact hz), fun q h1 h2 => by rw [e1, hk q (Nat.lt_of_lt_of_le h1 hS.1) (fun z => h2 (hA q (Nat.lt_of_lt_of_le h1 hS.1) z))]; exact hS.2.1 q h1 h2, fun q hq => by
      rcases List.mem_append.mp hq with h | h
      · exact hS.2.2 q h
      · exact hf _ (hL q h)⟩ T' rfl X'
  exact ⟨t2, st t2 a1, b1⟩
theorem pw_in {w0 : va_W} {H0 : Heap} (hD : va_D A w0) (hS : va_S A H0 H locs) (hA : ∀ q : Nat, H0.size ≤ q → A q) : ∀ q, va_A w0 H.size q → A q := by
  intro q h
  rcases h with ⟨k, e, hk⟩ | h
  · exact hD.2 k _ hk
  · exact hA q (Nat.le_trans hS.1 h)
theorem pw_blind {D : va_G} {ty : List (ClassId × FieldType)} {F : (Nat → Prop) → State → Prop} (hF : pF_ok F) {w0 : va_W} {sz : Nat} {av : List Value} : FrameBlind (va_Pc av (pw_P D ty F w0 sz)) := by
  intro a U g mk q
  obtain ⟨h0, h1, h2, h3, h4, h5⟩ := q
  exact ⟨h0, h1, h2, va_K.moved (u := U) (U := U.calling g mk a) (Vm.Alike.refl U.vm) h3, h4, hF.2 _ U (U.calling g mk a) rfl rfl h5⟩
theorem pw_pre {w0 : va_W} {av : List Value} (hFk : pF_ok F) (hF : F A s) (hK : va_K D vwCl ty s) (hP : va_P D vwCl w0 H) (hD : va_D A w0) (hS : va_S A s.heap H locs) (hA : ∀ q : Nat, s.heap.size ≤ q → A q) : ∀ U : State, U.heap = H → s.WarmedH U.vm → va_Pc av (pw_P D ty F w0 H.size) av.toArray U := by
  intro U hU hW
  refine ⟨rfl, by rw [hU], by rw [hU]; exact hP, va_K.moved hW.alike hK, hD.weaken (fun _ _ _ _ => trivial), ?_⟩
  exact hFk.1 A _ s U (pw_in hD hS hA) hW (fun a h1 h2 => by rw [hU]; exact hS.2.1 a h1 h2) hF
theorem mx_callV {y : MethodName} {bytes : ByteArray} {maxL nL n index ci : Nat} {ret : Option FieldType} {wy Ts : List Cond} {rm : Room} {own C : String} {b : Addr} {As st0 : List Value} {w0 : va_W} {S : Type} {u0 : S} {rv : S → Option Value} {w1 : S → va_W} {fs : List Value} {qc : vw_C}
    (X : CallFix p m c cc nL s args Ts own) (hM : MX l y wy rm D ty F w0 (.ref b :: As) u0 rv w1) (cw : CallW R s args own C index y bytes maxL ret wy rm 0 0 n) (hFk : pF_ok F) (hF : F A s) (hK : va_K D vwCl ty s) (hP : va_P D vwCl w0 H) (hD : va_D A w0) (hS : va_S A s.heap H locs) (hA : ∀ q : Nat, s.heap.size ≤ q → A q)
    (q0 : Nat) (he : w0[q0]? = some (b, .inr (ci, fs))) (hc : vwCl[ci]? = some qc) (hC : qc.1 = C) (hn : As.length = n) (hsize : ls.size = nL) (hstack : st0 = As.reverse ++ .ref b :: rest) (hW : (rest.map fun v => v.category).sum ≤ 8) (hdg : decode cc pc = .ok (.invokevirtual index, 3)) (hf : cells ≤ R.cells ∧ slots ≤ R.slots)
    (kk : ∀ (u : S) (H1 : Heap) (locs1 : List Loc), u = u0 → va_P D vwCl (w1 u) H1 → va_D A (w1 u) → va_S A s.heap H1 locs1 → W p l e R s m args below meth c H1 locs1 cells slots Q (F0 m (pc + 3) ls ((rv u).toList ++ rest))) : W p l e R s m args below meth c H locs cells slots Q (F0 m pc ls st0) := by
  subst hC
  refine pw_call (va_runV (As := As) (rest := rest) X (hM H.size) cw ⟨pw_blind hFk, va_recv hK hP hc he, pw_pre hFk hF hK hP hD hS hA⟩ rfl hn hsize hstack (lv_room hW) hdg hf) hS (fun q _ h => pw_in hD hS hA q h) (pw_in hD hS hA) ?_
  intro t H1 locs1 ht hvm hB hS1
  obtain ⟨hP1, -, hD1⟩ := hB
  rw [ht] at hP1
  exact kk u0 H1 locs1 rfl hP1 (hD1.weaken (fun _ q _ h => pw_in hD hS hA q.1 h)) hS1
theorem mx_callS {y : MethodName} {bytes : ByteArray} {maxL nL n index : Nat} {ret : Option FieldType} {wy Ts : List Cond} {rm : Room} {own : String} {As st0 : List Value} {w0 : va_W} {S : Type} {u0 : S} {rv : S → Option Value} {w1 : S → va_W}
    (X : CallFix p m c cc nL s args Ts own) (hM : MX l y wy rm D ty F w0 As u0 rv w1) (cw : CallB R s args own index y bytes maxL ret wy rm 0 0 n ∧ (Cond.static y).before args s = true) (hFk : pF_ok F) (hF : F A s) (hK : va_K D vwCl ty s) (hP : va_P D vwCl w0 H) (hD : va_D A w0) (hS : va_S A s.heap H locs) (hA : ∀ q : Nat, s.heap.size ≤ q → A q)
    (hn : As.length = n) (hsize : ls.size = nL) (hstack : st0 = As.reverse ++ rest) (hW : (rest.map fun v => v.category).sum ≤ 8) (hdg : decode cc pc = .ok (.invokestatic index, 3)) (hf : cells ≤ R.cells ∧ slots ≤ R.slots)
    (kk : ∀ (u : S) (H1 : Heap) (locs1 : List Loc), u = u0 → va_P D vwCl (w1 u) H1 → va_D A (w1 u) → va_S A s.heap H1 locs1 → W p l e R s m args below meth c H1 locs1 cells slots Q (F0 m (pc + 3) ls ((rv u).toList ++ rest))) : W p l e R s m args below meth c H locs cells slots Q (F0 m pc ls st0) := by
  refine pw_call (va_runS (As := As) (rest := rest) X (hM H.size) cw ⟨pw_blind hFk, pw_pre hFk hF hK hP hD hS hA⟩ rfl hn hsize hstack (lv_room hW) hdg hf) hS (fun q _ h => pw_in hD hS hA q h) (pw_in hD hS hA) ?_
  intro t H1 locs1 ht hvm hB hS1
  obtain ⟨hP1, -, hD1⟩ := hB
  rw [ht] at hP1
  exact kk u0 H1 locs1 rfl hP1 (hD1.weaken (fun _ q _ h => pw_in hD hS hA q.1 h)) hS1
end BaseRows
theorem gs_same {ws : va_W} {q : Nat} {x e : Nat × va_E} (h : ws[q]? = some x) : (ws.set q e)[q]? = some e := by
  have hq : q < ws.length := (List.getElem?_eq_some_iff.mp h).1
  simp [hq]
theorem gs_other {ws : va_W} {q q2 : Nat} {x e : Nat × va_E} (hne : q ≠ q2) (h : ws[q2]? = some x) : (ws.set q e)[q2]? = some x := by
  rw [List.getElem?_set_ne hne]; exact h
theorem gs_set {ws : va_W} {q : Nat} {x e : Nat × va_E} : (ws.set q x).set q e = ws.set q e := List.set_set ..
theorem gs_id {ws : va_W} {q : Nat} {x : Nat × va_E} (h : ws[q]? = some x) : ws.set q x = ws := by
  obtain ⟨hq, rfl⟩ := List.getElem?_eq_some_iff.mp h
  exact List.set_getElem_self hq
theorem vp_lt {x : Int32} {n : Nat} (h : vp_in x n) : x.toNatClampNeg < n := Nat.not_le.mp fun q => h (Or.inr q)
theorem i_lt {x y : Int32} {a b : Int} (hx : x.toInt = a) (hy : y.toInt = b) (h : x < y) : a < b := by subst hx; subst hy; exact Int32.lt_iff_toInt_lt.mp h
theorem i_ltn {x y : Int32} {a b : Int} (hx : x.toInt = a) (hy : y.toInt = b) (h : ¬ x < y) : b ≤ a := by subst hx; subst hy; exact Int.not_lt.mp (fun q => h (Int32.lt_iff_toInt_lt.mpr q))
theorem i_le {x y : Int32} {a b : Int} (hx : x.toInt = a) (hy : y.toInt = b) (h : x ≤ y) : a ≤ b := by subst hx; subst hy; exact Int32.le_iff_toInt_le.mp h
theorem i_len {x y : Int32} {a b : Int} (hx : x.toInt = a) (hy : y.toInt = b) (h : ¬ x ≤ y) : b < a := by subst hx; subst hy; exact Int.not_le.mp (fun q => h (Int32.le_iff_toInt_le.mpr q))
theorem i_eq {x y : Int32} {a b : Int} (hx : x.toInt = a) (hy : y.toInt = b) (h : x = y) : a = b := by subst hx; subst hy; rw [h]
theorem i_eqn {x y : Int32} {a b : Int} (hx : x.toInt = a) (hy : y.toInt = b) (h : ¬ x = y) : ¬ a = b := by subst hx; subst hy; exact fun q => h (Int32.toInt_inj.mp q)
theorem i_rng (x : Int32) : -2147483648 ≤ x.toInt ∧ x.toInt < 2147483648 := ⟨by have := Int32.le_toInt x; omega, by have := Int32.toInt_lt x; omega⟩
theorem i_inc {x y k : Int32} {z : Int} (e : y = x + k) (hk : k.toInt = z) (h1 : x.toInt + z ≤ 2147483647) (h2 : -2147483648 ≤ x.toInt + z) : y.toInt = x.toInt + z := by
  subst e; subst hk
  rw [Int32.toInt_add]
  exact Int.bmod_eq_of_le (by omega) (by omega)
theorem i_ne0 {x : Int32} (h : ¬ x.toInt = 0) : ¬ x = 0 := fun q => h (by rw [q]; rfl)
theorem i_max1 {x n : Int32} (e : x = if 1 < n then n else 1) : ¬ x = 0 := by
  subst e
  split
  · rename_i h
    have := i_lt (show (1 : Int32).toInt = 1 from rfl) rfl h
    exact i_ne0 (by omega)
  · decide
theorem i_half {x y : Int32} (e : y = x / 2) (h : 0 ≤ x.toInt) : y.toInt = x.toInt / 2 := by
  subst e
  obtain ⟨j, hj, rfl⟩ := nI_of (x := x) (fun q => by have := i_lt rfl (show (0 : Int32).toInt = 0 from rfl) q; omega)
  rw [show (2 : Int32) = nI 2 from rfl, pk_div hj (by decide) (by decide), nI_toInt hj, nI_toInt (by omega)]
  omega
theorem o_some {x : Option Nat} (h : ¬ x = none) : x = some (x.getD 0) := by
  cases x with
  | none => exact absurd rfl h
  | some y => rfl
theorem z_narrow {v : Int32} (h : v = 0 ∨ v = 1) : narrow .boolean (.int v) = .int v := by rcases h with rfl | rfl <;> rfl
theorem z_fits {v : Int32} (h : v = 0 ∨ v = 1) : fits .boolean (.int v) = true := by rcases h with rfl | rfl <;> rfl
/-! the rooms, the arrays' classes -/
def rmX (k : Nat) : Room := { frames := 4 * k, cells := 0, slots := 0, locals := 60 * k }
abbrev tyX (cI cB cK cS : ClassId) : List (ClassId × FieldType) := [(cI, .int), (cB, .byte), (cK, .object "PigRounds$Kind"), (cS, .object "PigRounds$Sheet")]
/-! the worlds: a Kind, a Ministry, a Land with its kinds -/
abbrev kf (v : Nat → Int32) : List Value := [.int (v 0), .int (v 1), .int (v 2), .int (v 3), .int (v 4), .int (v 5), .int (v 6), .int (v 7), .int (v 8)]
abbrev mf (v : Nat → Int32) : List Value := [.int (v 0), .int (v 1), .int (v 2), .int (v 3), .int (v 4)]
/-- a LAND: A 0 itself, A 1 its row of kinds, A 2 its ministry, A 3 .. A 7 its kinds -/
def landW (A : Nat → Nat) (cK : ClassId) (f : Nat → Int32) (kv : Nat → Nat → Int32) (mv : Nat → Int32) : va_W :=
  [(A (3 + 0), .inr (1, kf (kv 0))), (A (3 + 1), .inr (1, kf (kv 1))), (A (3 + 2), .inr (1, kf (kv 2))), (A (3 + 3), .inr (1, kf (kv 3))), (A (3 + 4), .inr (1, kf (kv 4))),
   (A 0, .inr (2, [.ref (A 1), .ref (A 2), .int (f 2), .int (f 3), .int (f 4), .int (f 5), .int (f 6), .int (f 7), .int (f 8), .int (f 9), .int (f 10), .int (f 11)])),
   (A 1, .inl (cK, 5, .inr (.inr (.inr (.inr (fun j => some (A (3 + j)))))))),
   (A 2, .inr (3, mf mv))]
theorem kk_get {A : Nat → Nat} {cK : ClassId} {f : Nat → Int32} {kv : Nat → Nat → Int32} {mv : Nat → Int32} {R : va_W} {j : Nat} (hj : j < 5) : (landW A cK f kv mv ++ R)[j]? = some (A (3 + j), .inr (1, kf (kv j))) := by
  rcases (show j = 0 ∨ j = 1 ∨ j = 2 ∨ j = 3 ∨ j = 4 by omega) with rfl | rfl | rfl | rfl | rfl <;> rfl
theorem kk_set {A : Nat → Nat} {cK : ClassId} {f : Nat → Int32} {kv : Nat → Nat → Int32} {mv : Nat → Int32} {R : va_W} {j : Nat} (hj : j < 5) {w : Nat → Int32} : (landW A cK f kv mv ++ R).set j (A (3 + j), .inr (1, kf w)) = landW A cK f (va_up kv j w) mv ++ R := by
  rcases (show j = 0 ∨ j = 1 ∨ j = 2 ∨ j = 3 ∨ j = 4 by omega) with rfl | rfl | rfl | rfl | rfl <;> rfl
theorem kk_get8 {A A2 : Nat → Nat} {cK : ClassId} {f f2 : Nat → Int32} {kv kv2 : Nat → Nat → Int32} {mv mv2 : Nat → Int32} {R : va_W} {j : Nat} (hj : j < 5) : (landW A cK f kv mv ++ (landW A2 cK f2 kv2 mv2 ++ R))[8 + j]? = some (A2 (3 + j), .inr (1, kf (kv2 j))) := by
  rcases (show j = 0 ∨ j = 1 ∨ j = 2 ∨ j = 3 ∨ j = 4 by omega) with rfl | rfl | rfl | rfl | rfl <;> rfl

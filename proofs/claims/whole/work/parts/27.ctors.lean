/-! constructors -/
def nstW : Nat → Cond := fun k => match k with
  | 0 => .methodLinkNest RX10 17 yX7_init "PigRounds"
  | 1 => .methodLinkNest RX10 33 yX8_init "PigRounds"
  | 2 => .methodLinkNest RX10 40 yX0_init "PigRounds"
  | 3 => .methodLinkNest RX10 66 yX6_init "PigRounds"
  | 4 => .methodLinkNest RX2 19 yX3_init "PigRounds"
  | _ => .methodLinkNest RX2 55 yX1_init "PigRounds"
theorem nstW_warm {s U : State} (hW : s.WarmedH U.vm) : ∀ k, va_Nw (nstW k) s → va_Nw (nstW k) U := by
  intro k h
  match k, h with
  | 0, h => exact va_Nw.warmM hW h
  | 1, h => exact va_Nw.warmM hW h
  | 2, h => exact va_Nw.warmM hW h
  | 3, h => exact va_Nw.warmM hW h
  | 4, h => exact va_Nw.warmM hW h
  | n + 5, h => exact va_Nw.warmM hW h
theorem nstW_tab : ∀ k, (nstW k).onTables = true := by
  intro k
  match k with
  | 0 => rfl
  | 1 => rfl
  | 2 => rfl
  | 3 => rfl
  | 4 => rfl
  | n + 5 => rfl
/-- rows of objects may be made, and mates of the nest called -/
def pFn : (Nat → Prop) → State → Prop := fun A U => pFk A U ∧ ∀ k, k < 6 → va_Nw (nstW k) U
theorem pFn_ok : pF_ok pFn := ⟨fun A B s U h1 hW h2 h => ⟨pFk_ok.1 A B s U h1 hW h2 h.1, fun k hk => nstW_warm hW k (h.2 k hk)⟩, fun A u U h1 h2 h => ⟨pFk_ok.2 A u U h1 h2 h.1, fun k hk => va_Nw.same (nstW_tab k) h1.symm (h.2 k hk)⟩⟩
section
variable {p : Program} {l : Launch} {e : Env} {R : Room} {s : State} {m : MethodId} {args : Array Value} {below : List Frame} {meth : Method} {c : Code} {H : Heap} {locs : List Loc} {cells slots : Nat} {Q : State → Prop}
variable {D : va_G} {ty : List (ClassId × FieldType)} {F : (Nat → Prop) → State → Prop} {A : Nat → Prop} {cc : ByteArray} {pc : Nat} {ls : Array Slot} {rest : List Value}
theorem mn_callN {y : MethodName} {bytes : ByteArray} {maxL nL n index mc ms : Nat} {wy Ts : List Cond} {rm : Room} {own host : String} {b : Addr} {As st0 : List Value} {w0 : va_W} {Post : va_W → Prop}
    (X : CallFix p m c cc nL s args Ts own) (hM : MN l y wy rm D ty F w0 (.ref b :: As) mc ms Post) (cw : va_CN R s args own index y host bytes maxL none wy rm mc ms n ∧ y.name = "<init>" ∧ (Cond.instanceMethod y).before args s = true) (hFk : pF_ok F) (hF : F A s) (hK : va_K D vwCl ty s) (hP : va_P D vwCl w0 H) (hD : va_D A w0) (hS : va_S A s.heap H locs) (hA : ∀ q : Nat, s.heap.size ≤ q → A q)
    (hn : As.length = n) (hsize : ls.size = nL) (hstack : st0 = As.reverse ++ .ref b :: rest) (hW : (rest.map fun v => v.category).sum ≤ 8) (hdg : decode cc pc = .ok (.invokespecial index, 3)) (hf : cells + mc ≤ R.cells ∧ slots + ms ≤ R.slots)
    (kk : ∀ (w1 : va_W) (H1 : Heap) (locs1 : List Loc), Post w1 → va_P D vwCl w1 H1 → va_D A w1 → va_S A s.heap H1 locs1 → W p l e R s m args below meth c H1 locs1 (cells + mc) (slots + ms) Q (F0 m (pc + 3) ls rest)) : W p l e R s m args below meth c H locs cells slots Q (F0 m pc ls st0) := by
  refine pn_call (va_runIN (As := As) (rest := rest) X (hM H.size) cw ⟨pw_blind hFk, pw_pre hFk hF hK hP hD hS hA⟩ rfl hn hsize hstack (lv_room hW) hdg hf) hS (fun q _ h => pw_in hD hS hA q h) (pw_in hD hS hA) ?_
  intro w1 H1 locs1 hw hP1 hD1 hS1
  exact kk w1 H1 locs1 hw hP1 (hD1.weaken (fun _ q _ h => pw_in hD hS hA q.1 h)) hS1
end
def lane0 : Nat → Int32 := upd (upd (upd (upd (upd (upd (upd (upd (fun _ => 0) 0 (-1)) 1 (-1)) 2 (-1)) 3 (-1)) 4 (-1)) 5 (-1)) 6 (-1)) 7 (-1)
set_option maxHeartbeats 8000000 in
set_option maxRecDepth 100000 in
theorem mtX1_init (l : Launch) (D : va_G) (cI cB cK cS : ClassId) (q : Nat) (R : va_W) : MN l yX1_init wsX1_init (rmC 1 0 0) D (tyX cI cB cK cS) pFn ([(q, .inr (1, [.int 0, .int 0, .int 0, .int 0, .int 0, .int 0, .int 0, .int 0, .int 0]))] ++ R) [.ref q] 0 0 (fun w => w = [(q, .inr (1, kf (fun _ => 0)))] ++ R) := by
  refine mn_intro (cc := cX1_init) (maxL := 1) (ret := none) (by decide) rfl rfl (Nat.le_of_ble_eq_true rfl) ?_
  intro p e s m below meth c A ls H locs Qm hQm hx hb hr hml hts hown hlocks hin hA hS hP hK hD hF hl
  have hown : s.vm.findClass RX1 = some m.cls := hown
  have hl : lv_has ls 1 [(0, .ref q)] := hl
  have k9 := hts (.fieldLink RX1 9 "PigRounds$Kind" "way" "I") (by decide +kernel)
  have k15 := hts (.fieldLink RX1 15 "PigRounds$Kind" "number" "I") (by decide +kernel)
  have k18 := hts (.fieldLink RX1 18 "PigRounds$Kind" "many" "I") (by decide +kernel)
  have k21 := hts (.fieldLink RX1 21 "PigRounds$Kind" "base" "I") (by decide +kernel)
  have k24 := hts (.fieldLink RX1 24 "PigRounds$Kind" "slope" "I") (by decide +kernel)
  have k27 := hts (.fieldLink RX1 27 "PigRounds$Kind" "rent" "I") (by decide +kernel)
  have k30 := hts (.fieldLink RX1 30 "PigRounds$Kind" "coin" "I") (by decide +kernel)
  have k33 := hts (.fieldLink RX1 33 "PigRounds$Kind" "out" "Z") (by decide +kernel)
  have k37 := hts (.fieldLink RX1 37 "PigRounds$Kind" "brought" "I") (by decide +kernel)
  have iX1 : ∀ w ∈ u_ws RX1 TX1 9, w ∈ wsX1_init := by decide +kernel
  refine lv_aload_n hx hb dX1_init_0 rfl (lv_at hl 0 rfl) ?_
  refine W.objInit hx hb hown (hts (.methodLink RX1 1 objectInit) (by decide +kernel)) (hts (.instanceMethod objectInit) (by decide +kernel)) (hts _ (List.mem_of_getElem? (i := 3) rfl)) rfl (by rw [hml]; exact hl.1) rfl dX1_init_1 (Nat.le_of_ble_eq_true rfl) (Nat.le_of_ble_eq_true rfl) ?_
  refine W.eq (g2 := F0 m 4 ls []) rfl ?_
  refine lv_aload_n hx hb dX1_init_4 rfl (lv_at hl 0 rfl) ?_
  refine lv_iconst (v := 0) hx hb dX1_init_5 (by decide) ?_
  refine va_put (D := D) (ci := 1) (v := .int 0) (ty := tyX1 0) (C := RX1) (T := TX1) (N := 9) hx hb hts iX1 tyX1 tyX1_ok nmX1 hown hK hP hD hS 0 rfl rfl 0 (by decide) k9 (fun _ h9 => h9) rfl (tyX1_ok 0 (by decide)) rfl rfl (Nat.le_of_ble_eq_true rfl) dX1_init_6 (fun H locs hP hD hS => ?_)
  have hP : va_P D vwCl ([(q, .inr (1, [.int 0, .int 0, .int 0, .int 0, .int 0, .int 0, .int 0, .int 0, .int 0]))] ++ R) H := hP
  have hD : va_D A ([(q, .inr (1, [.int 0, .int 0, .int 0, .int 0, .int 0, .int 0, .int 0, .int 0, .int 0]))] ++ R) := hD
  refine lv_aload_n hx hb dX1_init_9 rfl (lv_at hl 0 rfl) ?_
  refine lv_iconst (v := 0) hx hb dX1_init_10 (by decide) ?_
  refine va_put (D := D) (ci := 1) (v := .int 0) (ty := tyX1 1) (C := RX1) (T := TX1) (N := 9) hx hb hts iX1 tyX1 tyX1_ok nmX1 hown hK hP hD hS 0 rfl rfl 1 (by decide) k15 (fun _ h9 => h9) rfl (tyX1_ok 1 (by decide)) rfl rfl (Nat.le_of_ble_eq_true rfl) dX1_init_11 (fun H locs hP hD hS => ?_)
  have hP : va_P D vwCl ([(q, .inr (1, [.int 0, .int 0, .int 0, .int 0, .int 0, .int 0, .int 0, .int 0, .int 0]))] ++ R) H := hP
  have hD : va_D A ([(q, .inr (1, [.int 0, .int 0, .int 0, .int 0, .int 0, .int 0, .int 0, .int 0, .int 0]))] ++ R) := hD
  refine lv_aload_n hx hb dX1_init_14 rfl (lv_at hl 0 rfl) ?_
  refine lv_iconst (v := 0) hx hb dX1_init_15 (by decide) ?_
  refine va_put (D := D) (ci := 1) (v := .int 0) (ty := tyX1 2) (C := RX1) (T := TX1) (N := 9) hx hb hts iX1 tyX1 tyX1_ok nmX1 hown hK hP hD hS 0 rfl rfl 2 (by decide) k18 (fun _ h9 => h9) rfl (tyX1_ok 2 (by decide)) rfl rfl (Nat.le_of_ble_eq_true rfl) dX1_init_16 (fun H locs hP hD hS => ?_)
  have hP : va_P D vwCl ([(q, .inr (1, [.int 0, .int 0, .int 0, .int 0, .int 0, .int 0, .int 0, .int 0, .int 0]))] ++ R) H := hP
  have hD : va_D A ([(q, .inr (1, [.int 0, .int 0, .int 0, .int 0, .int 0, .int 0, .int 0, .int 0, .int 0]))] ++ R) := hD
  refine lv_aload_n hx hb dX1_init_19 rfl (lv_at hl 0 rfl) ?_
  refine lv_iconst (v := 0) hx hb dX1_init_20 (by decide) ?_
  refine va_put (D := D) (ci := 1) (v := .int 0) (ty := tyX1 3) (C := RX1) (T := TX1) (N := 9) hx hb hts iX1 tyX1 tyX1_ok nmX1 hown hK hP hD hS 0 rfl rfl 3 (by decide) k21 (fun _ h9 => h9) rfl (tyX1_ok 3 (by decide)) rfl rfl (Nat.le_of_ble_eq_true rfl) dX1_init_21 (fun H locs hP hD hS => ?_)
  have hP : va_P D vwCl ([(q, .inr (1, [.int 0, .int 0, .int 0, .int 0, .int 0, .int 0, .int 0, .int 0, .int 0]))] ++ R) H := hP
  have hD : va_D A ([(q, .inr (1, [.int 0, .int 0, .int 0, .int 0, .int 0, .int 0, .int 0, .int 0, .int 0]))] ++ R) := hD
  refine lv_aload_n hx hb dX1_init_24 rfl (lv_at hl 0 rfl) ?_
  refine lv_iconst (v := 0) hx hb dX1_init_25 (by decide) ?_
  refine va_put (D := D) (ci := 1) (v := .int 0) (ty := tyX1 4) (C := RX1) (T := TX1) (N := 9) hx hb hts iX1 tyX1 tyX1_ok nmX1 hown hK hP hD hS 0 rfl rfl 4 (by decide) k24 (fun _ h9 => h9) rfl (tyX1_ok 4 (by decide)) rfl rfl (Nat.le_of_ble_eq_true rfl) dX1_init_26 (fun H locs hP hD hS => ?_)
  have hP : va_P D vwCl ([(q, .inr (1, [.int 0, .int 0, .int 0, .int 0, .int 0, .int 0, .int 0, .int 0, .int 0]))] ++ R) H := hP
  have hD : va_D A ([(q, .inr (1, [.int 0, .int 0, .int 0, .int 0, .int 0, .int 0, .int 0, .int 0, .int 0]))] ++ R) := hD
  refine lv_aload_n hx hb dX1_init_29 rfl (lv_at hl 0 rfl) ?_
  refine lv_iconst (v := 0) hx hb dX1_init_30 (by decide) ?_
  refine va_put (D := D) (ci := 1) (v := .int 0) (ty := tyX1 5) (C := RX1) (T := TX1) (N := 9) hx hb hts iX1 tyX1 tyX1_ok nmX1 hown hK hP hD hS 0 rfl rfl 5 (by decide) k27 (fun _ h9 => h9) rfl (tyX1_ok 5 (by decide)) rfl rfl (Nat.le_of_ble_eq_true rfl) dX1_init_31 (fun H locs hP hD hS => ?_)
  have hP : va_P D vwCl ([(q, .inr (1, [.int 0, .int 0, .int 0, .int 0, .int 0, .int 0, .int 0, .int 0, .int 0]))] ++ R) H := hP
  have hD : va_D A ([(q, .inr (1, [.int 0, .int 0, .int 0, .int 0, .int 0, .int 0, .int 0, .int 0, .int 0]))] ++ R) := hD
  refine lv_aload_n hx hb dX1_init_34 rfl (lv_at hl 0 rfl) ?_
  refine lv_iconst (v := 0) hx hb dX1_init_35 (by decide) ?_
  refine va_put (D := D) (ci := 1) (v := .int 0) (ty := tyX1 6) (C := RX1) (T := TX1) (N := 9) hx hb hts iX1 tyX1 tyX1_ok nmX1 hown hK hP hD hS 0 rfl rfl 6 (by decide) k30 (fun _ h9 => h9) rfl (tyX1_ok 6 (by decide)) rfl rfl (Nat.le_of_ble_eq_true rfl) dX1_init_36 (fun H locs hP hD hS => ?_)
  have hP : va_P D vwCl ([(q, .inr (1, [.int 0, .int 0, .int 0, .int 0, .int 0, .int 0, .int 0, .int 0, .int 0]))] ++ R) H := hP
  have hD : va_D A ([(q, .inr (1, [.int 0, .int 0, .int 0, .int 0, .int 0, .int 0, .int 0, .int 0, .int 0]))] ++ R) := hD
  refine lv_aload_n hx hb dX1_init_39 rfl (lv_at hl 0 rfl) ?_
  refine lv_iconst (v := 0) hx hb dX1_init_40 (by decide) ?_
  refine va_put (D := D) (ci := 1) (v := .int 0) (ty := tyX1 7) (C := RX1) (T := TX1) (N := 9) hx hb hts iX1 tyX1 tyX1_ok nmX1 hown hK hP hD hS 0 rfl rfl 7 (by decide) k33 (fun _ h9 => h9) rfl (tyX1_ok 7 (by decide)) rfl rfl (Nat.le_of_ble_eq_true rfl) dX1_init_41 (fun H locs hP hD hS => ?_)
  have hP : va_P D vwCl ([(q, .inr (1, [.int 0, .int 0, .int 0, .int 0, .int 0, .int 0, .int 0, .int 0, .int 0]))] ++ R) H := hP
  have hD : va_D A ([(q, .inr (1, [.int 0, .int 0, .int 0, .int 0, .int 0, .int 0, .int 0, .int 0, .int 0]))] ++ R) := hD
  refine lv_aload_n hx hb dX1_init_44 rfl (lv_at hl 0 rfl) ?_
  refine lv_iconst (v := 0) hx hb dX1_init_45 (by decide) ?_
  refine va_put (D := D) (ci := 1) (v := .int 0) (ty := tyX1 8) (C := RX1) (T := TX1) (N := 9) hx hb hts iX1 tyX1 tyX1_ok nmX1 hown hK hP hD hS 0 rfl rfl 8 (by decide) k37 (fun _ h9 => h9) rfl (tyX1_ok 8 (by decide)) rfl rfl (Nat.le_of_ble_eq_true rfl) dX1_init_46 (fun H locs hP hD hS => ?_)
  have hP : va_P D vwCl ([(q, .inr (1, [.int 0, .int 0, .int 0, .int 0, .int 0, .int 0, .int 0, .int 0, .int 0]))] ++ R) H := hP
  have hD : va_D A ([(q, .inr (1, [.int 0, .int 0, .int 0, .int 0, .int 0, .int 0, .int 0, .int 0, .int 0]))] ++ R) := hD
  refine W.widen (k := 0) (n := 0) (by decide) (by decide) ?_
  rw [hQm]
  exact mn_ret hx hb hr hlocks hK hS rfl hP hD dX1_init_49
set_option maxHeartbeats 8000000 in
set_option maxRecDepth 100000 in
theorem mtX3_init (l : Launch) (D : va_G) (cI cB cK cS : ClassId) (q : Nat) (R : va_W) : MN l yX3_init wsX3_init (rmC 1 0 0) D (tyX cI cB cK cS) pFn ([(q, .inr (3, [.int 0, .int 0, .int 0, .int 0, .int 0]))] ++ R) [.ref q] 0 0 (fun w => w = [(q, .inr (3, mf (fun _ => 0)))] ++ R) := by
  refine mn_intro (cc := cX3_init) (maxL := 1) (ret := none) (by decide) rfl rfl (Nat.le_of_ble_eq_true rfl) ?_
  intro p e s m below meth c A ls H locs Qm hQm hx hb hr hml hts hown hlocks hin hA hS hP hK hD hF hl
  have hown : s.vm.findClass RX3 = some m.cls := hown
  have hl : lv_has ls 1 [(0, .ref q)] := hl
  have k7 := hts (.fieldLink RX3 7 "PigRounds$Ministry" "low" "I") (by decide +kernel)
  have k13 := hts (.fieldLink RX3 13 "PigRounds$Ministry" "high" "I") (by decide +kernel)
  have k16 := hts (.fieldLink RX3 16 "PigRounds$Ministry" "lot" "I") (by decide +kernel)
  have k19 := hts (.fieldLink RX3 19 "PigRounds$Ministry" "stock" "I") (by decide +kernel)
  have k22 := hts (.fieldLink RX3 22 "PigRounds$Ministry" "cost" "I") (by decide +kernel)
  have iX3 : ∀ w ∈ u_ws RX3 TX3 5, w ∈ wsX3_init := by decide +kernel
  refine lv_aload_n hx hb dX3_init_0 rfl (lv_at hl 0 rfl) ?_
  refine W.objInit hx hb hown (hts (.methodLink RX3 1 objectInit) (by decide +kernel)) (hts (.instanceMethod objectInit) (by decide +kernel)) (hts _ (List.mem_of_getElem? (i := 3) rfl)) rfl (by rw [hml]; exact hl.1) rfl dX3_init_1 (Nat.le_of_ble_eq_true rfl) (Nat.le_of_ble_eq_true rfl) ?_
  refine W.eq (g2 := F0 m 4 ls []) rfl ?_
  refine lv_aload_n hx hb dX3_init_4 rfl (lv_at hl 0 rfl) ?_
  refine lv_iconst (v := 0) hx hb dX3_init_5 (by decide) ?_
  refine va_put (D := D) (ci := 3) (v := .int 0) (ty := tyX3 0) (C := RX3) (T := TX3) (N := 5) hx hb hts iX3 tyX3 tyX3_ok nmX3 hown hK hP hD hS 0 rfl rfl 0 (by decide) k7 (fun _ h9 => h9) rfl (tyX3_ok 0 (by decide)) rfl rfl (Nat.le_of_ble_eq_true rfl) dX3_init_6 (fun H locs hP hD hS => ?_)
  have hP : va_P D vwCl ([(q, .inr (3, [.int 0, .int 0, .int 0, .int 0, .int 0]))] ++ R) H := hP
  have hD : va_D A ([(q, .inr (3, [.int 0, .int 0, .int 0, .int 0, .int 0]))] ++ R) := hD
  refine lv_aload_n hx hb dX3_init_9 rfl (lv_at hl 0 rfl) ?_
  refine lv_iconst (v := 0) hx hb dX3_init_10 (by decide) ?_
  refine va_put (D := D) (ci := 3) (v := .int 0) (ty := tyX3 1) (C := RX3) (T := TX3) (N := 5) hx hb hts iX3 tyX3 tyX3_ok nmX3 hown hK hP hD hS 0 rfl rfl 1 (by decide) k13 (fun _ h9 => h9) rfl (tyX3_ok 1 (by decide)) rfl rfl (Nat.le_of_ble_eq_true rfl) dX3_init_11 (fun H locs hP hD hS => ?_)
  have hP : va_P D vwCl ([(q, .inr (3, [.int 0, .int 0, .int 0, .int 0, .int 0]))] ++ R) H := hP
  have hD : va_D A ([(q, .inr (3, [.int 0, .int 0, .int 0, .int 0, .int 0]))] ++ R) := hD
  refine lv_aload_n hx hb dX3_init_14 rfl (lv_at hl 0 rfl) ?_
  refine lv_iconst (v := 0) hx hb dX3_init_15 (by decide) ?_
  refine va_put (D := D) (ci := 3) (v := .int 0) (ty := tyX3 2) (C := RX3) (T := TX3) (N := 5) hx hb hts iX3 tyX3 tyX3_ok nmX3 hown hK hP hD hS 0 rfl rfl 2 (by decide) k16 (fun _ h9 => h9) rfl (tyX3_ok 2 (by decide)) rfl rfl (Nat.le_of_ble_eq_true rfl) dX3_init_16 (fun H locs hP hD hS => ?_)
  have hP : va_P D vwCl ([(q, .inr (3, [.int 0, .int 0, .int 0, .int 0, .int 0]))] ++ R) H := hP
  have hD : va_D A ([(q, .inr (3, [.int 0, .int 0, .int 0, .int 0, .int 0]))] ++ R) := hD
  refine lv_aload_n hx hb dX3_init_19 rfl (lv_at hl 0 rfl) ?_
  refine lv_iconst (v := 0) hx hb dX3_init_20 (by decide) ?_
  refine va_put (D := D) (ci := 3) (v := .int 0) (ty := tyX3 3) (C := RX3) (T := TX3) (N := 5) hx hb hts iX3 tyX3 tyX3_ok nmX3 hown hK hP hD hS 0 rfl rfl 3 (by decide) k19 (fun _ h9 => h9) rfl (tyX3_ok 3 (by decide)) rfl rfl (Nat.le_of_ble_eq_true rfl) dX3_init_21 (fun H locs hP hD hS => ?_)
  have hP : va_P D vwCl ([(q, .inr (3, [.int 0, .int 0, .int 0, .int 0, .int 0]))] ++ R) H := hP
  have hD : va_D A ([(q, .inr (3, [.int 0, .int 0, .int 0, .int 0, .int 0]))] ++ R) := hD
  refine lv_aload_n hx hb dX3_init_24 rfl (lv_at hl 0 rfl) ?_
  refine lv_iconst (v := 0) hx hb dX3_init_25 (by decide) ?_
  refine va_put (D := D) (ci := 3) (v := .int 0) (ty := tyX3 4) (C := RX3) (T := TX3) (N := 5) hx hb hts iX3 tyX3 tyX3_ok nmX3 hown hK hP hD hS 0 rfl rfl 4 (by decide) k22 (fun _ h9 => h9) rfl (tyX3_ok 4 (by decide)) rfl rfl (Nat.le_of_ble_eq_true rfl) dX3_init_26 (fun H locs hP hD hS => ?_)
  have hP : va_P D vwCl ([(q, .inr (3, [.int 0, .int 0, .int 0, .int 0, .int 0]))] ++ R) H := hP
  have hD : va_D A ([(q, .inr (3, [.int 0, .int 0, .int 0, .int 0, .int 0]))] ++ R) := hD
  refine W.widen (k := 0) (n := 0) (by decide) (by decide) ?_
  rw [hQm]
  exact mn_ret hx hb hr hlocks hK hS rfl hP hD dX3_init_29
set_option maxHeartbeats 8000000 in
set_option maxRecDepth 100000 in
theorem mtX6_init (l : Launch) (D : va_G) (cI cB cK cS : ClassId) (q : Nat) (R : va_W) : MN l yX6_init wsX6_init (rmC 1 1 60) D (tyX cI cB cK cS) pFn ([(q, .inr (5, [.null, .int 0, .int 0, .int 0]))] ++ R) [.ref q] 1 60 (fun w => ∃ it : Nat, w = [(q, .inr (5, sf it sheet_v0)), (it, .inl (cI, 60, .inl (fun _ => 0)))] ++ R) := by
  refine mn_intro (cc := cX6_init) (maxL := 1) (ret := none) (by decide) rfl rfl (Nat.le_of_ble_eq_true rfl) ?_
  intro p e s m below meth c A ls H locs Qm hQm hx hb hr hml hts hown hlocks hin hA hS hP hK hD hF hl
  have hown : s.vm.findClass RX6 = some m.cls := hown
  have hl : lv_has ls 1 [(0, .ref q)] := hl
  have k9 := hts (.fieldLink RX6 9 "PigRounds$Sheet" "items" "[I") (by decide +kernel)
  have k13 := hts (.fieldLink RX6 13 "PigRounds$Sheet" "missing" "Z") (by decide +kernel)
  have k17 := hts (.fieldLink RX6 17 "PigRounds$Sheet" "lane" "I") (by decide +kernel)
  have k21 := hts (.fieldLink RX6 21 "PigRounds$Sheet" "size" "I") (by decide +kernel)
  have iX6 : ∀ w ∈ u_ws RX6 TX6 4, w ∈ wsX6_init := by decide +kernel
  refine lv_aload_n hx hb dX6_init_0 rfl (lv_at hl 0 rfl) ?_
  refine W.objInit hx hb hown (hts (.methodLink RX6 1 objectInit) (by decide +kernel)) (hts (.instanceMethod objectInit) (by decide +kernel)) (hts _ (List.mem_of_getElem? (i := 3) rfl)) rfl (by rw [hml]; exact hl.1) rfl dX6_init_1 (Nat.le_of_ble_eq_true rfl) (Nat.le_of_ble_eq_true rfl) ?_
  refine W.eq (g2 := F0 m 4 ls []) rfl ?_
  refine lv_aload_n hx hb dX6_init_4 rfl (lv_at hl 0 rfl) ?_
  refine lv_bipush (v := 60) hx hb dX6_init_5 (by decide) ?_
  refine mn_newi (N := 60) hx hb (hts (.arrayClass .int) (by decide +kernel)) hK hP hD hS hA (by decide) (by decide) (by decide) (by decide) (by decide) dX6_init_7 (fun q1 H hP hD hS => ?_)
  have hP : va_P D vwCl ([(q1, .inl (cI, 60, .inl (fun _ => 0)))] ++ ([(q, .inr (5, [.null, .int 0, .int 0, .int 0]))] ++ R)) H := hP
  have hD : va_D A ([(q1, .inl (cI, 60, .inl (fun _ => 0)))] ++ ([(q, .inr (5, [.null, .int 0, .int 0, .int 0]))] ++ R)) := hD
  refine W.widen (k := 1) (n := 60) (by decide) (by decide) ?_
  refine va_putF (D := D) (ci := 5) (v := .ref q1) (ty := tyX6 0) (C := RX6) (T := TX6) (N := 4) hx hb hts iX6 tyX6 tyX6_ok nmX6 hown hK hP hD hS 1 rfl rfl 0 (by decide) k9 (fun _ h9 => h9) rfl hin rfl (tyX6_ok 0 (by decide)) rfl rfl (Nat.le_of_ble_eq_true rfl) dX6_init_9 (fun H locs hP hD hS => ?_)
  have hP : va_P D vwCl ([(q1, .inl (cI, 60, .inl (fun _ => 0)))] ++ ([(q, .inr (5, [.ref q1, .int 0, .int 0, .int 0]))] ++ R)) H := hP
  have hD : va_D A ([(q1, .inl (cI, 60, .inl (fun _ => 0)))] ++ ([(q, .inr (5, [.ref q1, .int 0, .int 0, .int 0]))] ++ R)) := hD
  refine lv_aload_n hx hb dX6_init_12 rfl (lv_at hl 0 rfl) ?_
  refine lv_iconst (v := 1) hx hb dX6_init_13 (by decide) ?_
  refine va_put (D := D) (ci := 5) (v := .int 1) (ty := tyX6 1) (C := RX6) (T := TX6) (N := 4) hx hb hts iX6 tyX6 tyX6_ok nmX6 hown hK hP hD hS 1 rfl rfl 1 (by decide) k13 (fun _ h9 => h9) rfl (tyX6_ok 1 (by decide)) rfl rfl (Nat.le_of_ble_eq_true rfl) dX6_init_14 (fun H locs hP hD hS => ?_)
  have hP : va_P D vwCl ([(q1, .inl (cI, 60, .inl (fun _ => 0)))] ++ ([(q, .inr (5, [.ref q1, .int 1, .int 0, .int 0]))] ++ R)) H := hP
  have hD : va_D A ([(q1, .inl (cI, 60, .inl (fun _ => 0)))] ++ ([(q, .inr (5, [.ref q1, .int 1, .int 0, .int 0]))] ++ R)) := hD
  refine lv_aload_n hx hb dX6_init_17 rfl (lv_at hl 0 rfl) ?_
  refine lv_iconst (v := 0) hx hb dX6_init_18 (by decide) ?_
  refine va_put (D := D) (ci := 5) (v := .int 0) (ty := tyX6 2) (C := RX6) (T := TX6) (N := 4) hx hb hts iX6 tyX6 tyX6_ok nmX6 hown hK hP hD hS 1 rfl rfl 2 (by decide) k17 (fun _ h9 => h9) rfl (tyX6_ok 2 (by decide)) rfl rfl (Nat.le_of_ble_eq_true rfl) dX6_init_19 (fun H locs hP hD hS => ?_)
  have hP : va_P D vwCl ([(q1, .inl (cI, 60, .inl (fun _ => 0)))] ++ ([(q, .inr (5, [.ref q1, .int 1, .int 0, .int 0]))] ++ R)) H := hP
  have hD : va_D A ([(q1, .inl (cI, 60, .inl (fun _ => 0)))] ++ ([(q, .inr (5, [.ref q1, .int 1, .int 0, .int 0]))] ++ R)) := hD
  refine lv_aload_n hx hb dX6_init_22 rfl (lv_at hl 0 rfl) ?_
  refine lv_iconst (v := 0) hx hb dX6_init_23 (by decide) ?_
  refine va_put (D := D) (ci := 5) (v := .int 0) (ty := tyX6 3) (C := RX6) (T := TX6) (N := 4) hx hb hts iX6 tyX6 tyX6_ok nmX6 hown hK hP hD hS 1 rfl rfl 3 (by decide) k21 (fun _ h9 => h9) rfl (tyX6_ok 3 (by decide)) rfl rfl (Nat.le_of_ble_eq_true rfl) dX6_init_24 (fun H locs hP hD hS => ?_)
  have hP : va_P D vwCl ([(q1, .inl (cI, 60, .inl (fun _ => 0)))] ++ ([(q, .inr (5, [.ref q1, .int 1, .int 0, .int 0]))] ++ R)) H := hP
  have hD : va_D A ([(q1, .inl (cI, 60, .inl (fun _ => 0)))] ++ ([(q, .inr (5, [.ref q1, .int 1, .int 0, .int 0]))] ++ R)) := hD
  have hpm : List.Perm ([(q1, .inl (cI, 60, .inl (fun _ => 0)))] ++ ([(q, .inr (5, [.ref q1, .int 1, .int 0, .int 0]))] ++ R)) ([(q, .inr (5, [.ref q1, .int 1, .int 0, .int 0]))] ++ ([(q1, .inl (cI, 60, .inl (fun _ => 0)))] ++ R)) := gp_swap
  have hP := gp_P hpm hP
  have hD := gp_D hpm hD
  refine W.widen (k := 1) (n := 60) (by decide) (by decide) ?_
  rw [hQm]
  exact mn_ret hx hb hr hlocks hK hS ⟨q1, rfl⟩ hP hD dX6_init_27
set_option maxHeartbeats 8000000 in
set_option maxRecDepth 100000 in
theorem mtX7_init (l : Launch) (D : va_G) (cI cB cK cS : ClassId) (q : Nat) (R : va_W) : MN l yX7_init wsX7_init (rmC 1 1 400) D (tyX cI cB cK cS) pFn ([(q, .inr (6, [.null, .int 0]))] ++ R) [.ref q] 1 400 (fun w => ∃ U : Nat → Nat, U 0 = q ∧ w = tpW U cB 0 (fun _ => 0) ++ R) := by
  refine mn_intro (cc := cX7_init) (maxL := 1) (ret := none) (by decide) rfl rfl (Nat.le_of_ble_eq_true rfl) ?_
  intro p e s m below meth c A ls H locs Qm hQm hx hb hr hml hts hown hlocks hin hA hS hP hK hD hF hl
  have hown : s.vm.findClass RX7 = some m.cls := hown
  have hl : lv_has ls 1 [(0, .ref q)] := hl
  have k9 := hts (.fieldLink RX7 9 "PigRounds$Tape" "bytes" "[B") (by decide +kernel)
  have k13 := hts (.fieldLink RX7 13 "PigRounds$Tape" "length" "I") (by decide +kernel)
  have iX7 : ∀ w ∈ u_ws RX7 TX7 2, w ∈ wsX7_init := by decide +kernel
  refine lv_aload_n hx hb dX7_init_0 rfl (lv_at hl 0 rfl) ?_
  refine W.objInit hx hb hown (hts (.methodLink RX7 1 objectInit) (by decide +kernel)) (hts (.instanceMethod objectInit) (by decide +kernel)) (hts _ (List.mem_of_getElem? (i := 3) rfl)) rfl (by rw [hml]; exact hl.1) rfl dX7_init_1 (Nat.le_of_ble_eq_true rfl) (Nat.le_of_ble_eq_true rfl) ?_
  refine W.eq (g2 := F0 m 4 ls []) rfl ?_
  refine lv_aload_n hx hb dX7_init_4 rfl (lv_at hl 0 rfl) ?_
  refine lv_sipush (v := 400) hx hb dX7_init_5 (by decide) ?_
  refine mn_newb (N := 400) hx hb (hts (.arrayClass .byte) (by decide +kernel)) hK hP hD hS hA (by decide) (by decide) (by decide) (by decide) (by decide) dX7_init_8 (fun q1 H hP hD hS => ?_)
  have hP : va_P D vwCl ([(q1, .inl (cB, 400, .inl (fun _ => 0)))] ++ ([(q, .inr (6, [.null, .int 0]))] ++ R)) H := hP
  have hD : va_D A ([(q1, .inl (cB, 400, .inl (fun _ => 0)))] ++ ([(q, .inr (6, [.null, .int 0]))] ++ R)) := hD
  refine W.widen (k := 1) (n := 400) (by decide) (by decide) ?_
  refine va_putF (D := D) (ci := 6) (v := .ref q1) (ty := tyX7 0) (C := RX7) (T := TX7) (N := 2) hx hb hts iX7 tyX7 tyX7_ok nmX7 hown hK hP hD hS 1 rfl rfl 0 (by decide) k9 (fun _ h9 => h9) rfl hin rfl (tyX7_ok 0 (by decide)) rfl rfl (Nat.le_of_ble_eq_true rfl) dX7_init_10 (fun H locs hP hD hS => ?_)
  have hP : va_P D vwCl ([(q1, .inl (cB, 400, .inl (fun _ => 0)))] ++ ([(q, .inr (6, [.ref q1, .int 0]))] ++ R)) H := hP
  have hD : va_D A ([(q1, .inl (cB, 400, .inl (fun _ => 0)))] ++ ([(q, .inr (6, [.ref q1, .int 0]))] ++ R)) := hD
  refine lv_aload_n hx hb dX7_init_13 rfl (lv_at hl 0 rfl) ?_
  refine lv_iconst (v := 0) hx hb dX7_init_14 (by decide) ?_
  refine va_put (D := D) (ci := 6) (v := .int 0) (ty := tyX7 1) (C := RX7) (T := TX7) (N := 2) hx hb hts iX7 tyX7 tyX7_ok nmX7 hown hK hP hD hS 1 rfl rfl 1 (by decide) k13 (fun _ h9 => h9) rfl (tyX7_ok 1 (by decide)) rfl rfl (Nat.le_of_ble_eq_true rfl) dX7_init_15 (fun H locs hP hD hS => ?_)
  have hP : va_P D vwCl ([(q1, .inl (cB, 400, .inl (fun _ => 0)))] ++ ([(q, .inr (6, [.ref q1, .int 0]))] ++ R)) H := hP
  have hD : va_D A ([(q1, .inl (cB, 400, .inl (fun _ => 0)))] ++ ([(q, .inr (6, [.ref q1, .int 0]))] ++ R)) := hD
  have hpm : List.Perm ([(q1, .inl (cB, 400, .inl (fun _ => 0)))] ++ ([(q, .inr (6, [.ref q1, .int 0]))] ++ R)) ([(q, .inr (6, [.ref q1, .int 0]))] ++ ([(q1, .inl (cB, 400, .inl (fun _ => 0)))] ++ R)) := gp_swap
  have hP := gp_P hpm hP
  have hD := gp_D hpm hD
  refine W.widen (k := 1) (n := 400) (by decide) (by decide) ?_
  rw [hQm]
  exact mn_ret hx hb hr hlocks hK hS ⟨adr [q, q1], rfl, rfl⟩ hP hD dX7_init_18
set_option maxHeartbeats 8000000 in
set_option maxRecDepth 100000 in
theorem mtX4_init (l : Launch) (D : va_G) (cI cB cK cS : ClassId) (q : Nat) (U : Nat → Nat) (R : va_W) : MN l yX4_init wsX4_init (rmC 1 1 5) D (tyX cI cB cK cS) pFn ([(q, .inr (4, [.null, .null, .int 0, .int 0, .int 0, .int 0, .int 0]))] ++ R) [.ref q, .ref (U 0)] 1 5 (fun w => ∃ Q : Nat → Nat, Q 0 = q ∧ w = rdW Q U cI 0 0 0 0 0 (fun _ => 0) ++ R) := by
  refine mn_intro (cc := cX4_init) (maxL := 2) (ret := none) (by decide) rfl rfl (Nat.le_of_ble_eq_true rfl) ?_
  intro p e s m below meth c A ls H locs Qm hQm hx hb hr hml hts hown hlocks hin hA hS hP hK hD hF hl
  have hown : s.vm.findClass RX4 = some m.cls := hown
  have hl : lv_has ls 2 [(0, .ref q), (1, .ref (U 0))] := hl
  have k9 := hts (.fieldLink RX4 9 "PigRounds$Reader" "numbers" "[I") (by decide +kernel)
  have k15 := hts (.fieldLink RX4 15 "PigRounds$Reader" "place" "I") (by decide +kernel)
  have k19 := hts (.fieldLink RX4 19 "PigRounds$Reader" "token" "I") (by decide +kernel)
  have k22 := hts (.fieldLink RX4 22 "PigRounds$Reader" "value" "I") (by decide +kernel)
  have k25 := hts (.fieldLink RX4 25 "PigRounds$Reader" "start" "I") (by decide +kernel)
  have k28 := hts (.fieldLink RX4 28 "PigRounds$Reader" "fault" "I") (by decide +kernel)
  have k31 := hts (.fieldLink RX4 31 "PigRounds$Reader" "tape" "LPigRounds$Tape;") (by decide +kernel)
  have iX4 : ∀ w ∈ u_ws RX4 TX4 7, w ∈ wsX4_init := by decide +kernel
  refine lv_aload_n hx hb dX4_init_0 rfl (lv_at hl 0 rfl) ?_
  refine W.objInit hx hb hown (hts (.methodLink RX4 3 objectInit) (by decide +kernel)) (hts (.instanceMethod objectInit) (by decide +kernel)) (hts _ (List.mem_of_getElem? (i := 3) rfl)) rfl (by rw [hml]; exact hl.1) rfl dX4_init_1 (Nat.le_of_ble_eq_true rfl) (Nat.le_of_ble_eq_true rfl) ?_
  refine W.eq (g2 := F0 m 4 ls []) rfl ?_
  refine lv_aload_n hx hb dX4_init_4 rfl (lv_at hl 0 rfl) ?_
  refine lv_iconst (v := 5) hx hb dX4_init_5 (by decide) ?_
  refine mn_newi (N := 5) hx hb (hts (.arrayClass .int) (by decide +kernel)) hK hP hD hS hA (by decide) (by decide) (by decide) (by decide) (by decide) dX4_init_6 (fun q1 H hP hD hS => ?_)
  have hP : va_P D vwCl ([(q1, .inl (cI, 5, .inl (fun _ => 0)))] ++ ([(q, .inr (4, [.null, .null, .int 0, .int 0, .int 0, .int 0, .int 0]))] ++ R)) H := hP
  have hD : va_D A ([(q1, .inl (cI, 5, .inl (fun _ => 0)))] ++ ([(q, .inr (4, [.null, .null, .int 0, .int 0, .int 0, .int 0, .int 0]))] ++ R)) := hD
  refine W.widen (k := 1) (n := 5) (by decide) (by decide) ?_
  refine va_putF (D := D) (ci := 4) (v := .ref q1) (ty := tyX4 1) (C := RX4) (T := TX4) (N := 7) hx hb hts iX4 tyX4 tyX4_ok nmX4 hown hK hP hD hS 1 rfl rfl 1 (by decide) k9 (fun _ h9 => h9) rfl hin rfl (tyX4_ok 1 (by decide)) rfl rfl (Nat.le_of_ble_eq_true rfl) dX4_init_8 (fun H locs hP hD hS => ?_)
  have hP : va_P D vwCl ([(q1, .inl (cI, 5, .inl (fun _ => 0)))] ++ ([(q, .inr (4, [.null, .ref q1, .int 0, .int 0, .int 0, .int 0, .int 0]))] ++ R)) H := hP
  have hD : va_D A ([(q1, .inl (cI, 5, .inl (fun _ => 0)))] ++ ([(q, .inr (4, [.null, .ref q1, .int 0, .int 0, .int 0, .int 0, .int 0]))] ++ R)) := hD
  refine lv_aload_n hx hb dX4_init_11 rfl (lv_at hl 0 rfl) ?_
  refine lv_iconst (v := 0) hx hb dX4_init_12 (by decide) ?_
  refine va_put (D := D) (ci := 4) (v := .int 0) (ty := tyX4 2) (C := RX4) (T := TX4) (N := 7) hx hb hts iX4 tyX4 tyX4_ok nmX4 hown hK hP hD hS 1 rfl rfl 2 (by decide) k15 (fun _ h9 => h9) rfl (tyX4_ok 2 (by decide)) rfl rfl (Nat.le_of_ble_eq_true rfl) dX4_init_13 (fun H locs hP hD hS => ?_)
  have hP : va_P D vwCl ([(q1, .inl (cI, 5, .inl (fun _ => 0)))] ++ ([(q, .inr (4, [.null, .ref q1, .int 0, .int 0, .int 0, .int 0, .int 0]))] ++ R)) H := hP
  have hD : va_D A ([(q1, .inl (cI, 5, .inl (fun _ => 0)))] ++ ([(q, .inr (4, [.null, .ref q1, .int 0, .int 0, .int 0, .int 0, .int 0]))] ++ R)) := hD
  refine lv_aload_n hx hb dX4_init_16 rfl (lv_at hl 0 rfl) ?_
  refine lv_iconst (v := 0) hx hb dX4_init_17 (by decide) ?_
  refine va_put (D := D) (ci := 4) (v := .int 0) (ty := tyX4 3) (C := RX4) (T := TX4) (N := 7) hx hb hts iX4 tyX4 tyX4_ok nmX4 hown hK hP hD hS 1 rfl rfl 3 (by decide) k19 (fun _ h9 => h9) rfl (tyX4_ok 3 (by decide)) rfl rfl (Nat.le_of_ble_eq_true rfl) dX4_init_18 (fun H locs hP hD hS => ?_)
  have hP : va_P D vwCl ([(q1, .inl (cI, 5, .inl (fun _ => 0)))] ++ ([(q, .inr (4, [.null, .ref q1, .int 0, .int 0, .int 0, .int 0, .int 0]))] ++ R)) H := hP
  have hD : va_D A ([(q1, .inl (cI, 5, .inl (fun _ => 0)))] ++ ([(q, .inr (4, [.null, .ref q1, .int 0, .int 0, .int 0, .int 0, .int 0]))] ++ R)) := hD
  refine lv_aload_n hx hb dX4_init_21 rfl (lv_at hl 0 rfl) ?_
  refine lv_iconst (v := 0) hx hb dX4_init_22 (by decide) ?_
  refine va_put (D := D) (ci := 4) (v := .int 0) (ty := tyX4 4) (C := RX4) (T := TX4) (N := 7) hx hb hts iX4 tyX4 tyX4_ok nmX4 hown hK hP hD hS 1 rfl rfl 4 (by decide) k22 (fun _ h9 => h9) rfl (tyX4_ok 4 (by decide)) rfl rfl (Nat.le_of_ble_eq_true rfl) dX4_init_23 (fun H locs hP hD hS => ?_)
  have hP : va_P D vwCl ([(q1, .inl (cI, 5, .inl (fun _ => 0)))] ++ ([(q, .inr (4, [.null, .ref q1, .int 0, .int 0, .int 0, .int 0, .int 0]))] ++ R)) H := hP
  have hD : va_D A ([(q1, .inl (cI, 5, .inl (fun _ => 0)))] ++ ([(q, .inr (4, [.null, .ref q1, .int 0, .int 0, .int 0, .int 0, .int 0]))] ++ R)) := hD
  refine lv_aload_n hx hb dX4_init_26 rfl (lv_at hl 0 rfl) ?_
  refine lv_iconst (v := 0) hx hb dX4_init_27 (by decide) ?_
  refine va_put (D := D) (ci := 4) (v := .int 0) (ty := tyX4 5) (C := RX4) (T := TX4) (N := 7) hx hb hts iX4 tyX4 tyX4_ok nmX4 hown hK hP hD hS 1 rfl rfl 5 (by decide) k25 (fun _ h9 => h9) rfl (tyX4_ok 5 (by decide)) rfl rfl (Nat.le_of_ble_eq_true rfl) dX4_init_28 (fun H locs hP hD hS => ?_)
  have hP : va_P D vwCl ([(q1, .inl (cI, 5, .inl (fun _ => 0)))] ++ ([(q, .inr (4, [.null, .ref q1, .int 0, .int 0, .int 0, .int 0, .int 0]))] ++ R)) H := hP
  have hD : va_D A ([(q1, .inl (cI, 5, .inl (fun _ => 0)))] ++ ([(q, .inr (4, [.null, .ref q1, .int 0, .int 0, .int 0, .int 0, .int 0]))] ++ R)) := hD
  refine lv_aload_n hx hb dX4_init_31 rfl (lv_at hl 0 rfl) ?_
  refine lv_iconst (v := 0) hx hb dX4_init_32 (by decide) ?_
  refine va_put (D := D) (ci := 4) (v := .int 0) (ty := tyX4 6) (C := RX4) (T := TX4) (N := 7) hx hb hts iX4 tyX4 tyX4_ok nmX4 hown hK hP hD hS 1 rfl rfl 6 (by decide) k28 (fun _ h9 => h9) rfl (tyX4_ok 6 (by decide)) rfl rfl (Nat.le_of_ble_eq_true rfl) dX4_init_33 (fun H locs hP hD hS => ?_)
  have hP : va_P D vwCl ([(q1, .inl (cI, 5, .inl (fun _ => 0)))] ++ ([(q, .inr (4, [.null, .ref q1, .int 0, .int 0, .int 0, .int 0, .int 0]))] ++ R)) H := hP
  have hD : va_D A ([(q1, .inl (cI, 5, .inl (fun _ => 0)))] ++ ([(q, .inr (4, [.null, .ref q1, .int 0, .int 0, .int 0, .int 0, .int 0]))] ++ R)) := hD
  refine lv_aload_n hx hb dX4_init_36 rfl (lv_at hl 0 rfl) ?_
  refine lv_aload_n hx hb dX4_init_37 rfl (lv_at hl 1 rfl) ?_
  refine va_putF (D := D) (ci := 4) (v := .ref (U 0)) (ty := tyX4 0) (C := RX4) (T := TX4) (N := 7) hx hb hts iX4 tyX4 tyX4_ok nmX4 hown hK hP hD hS 1 rfl rfl 0 (by decide) k31 (fun _ h9 => h9) rfl hin rfl (tyX4_ok 0 (by decide)) rfl rfl (Nat.le_of_ble_eq_true rfl) dX4_init_38 (fun H locs hP hD hS => ?_)
  have hP : va_P D vwCl ([(q1, .inl (cI, 5, .inl (fun _ => 0)))] ++ ([(q, .inr (4, [.ref (U 0), .ref q1, .int 0, .int 0, .int 0, .int 0, .int 0]))] ++ R)) H := hP
  have hD : va_D A ([(q1, .inl (cI, 5, .inl (fun _ => 0)))] ++ ([(q, .inr (4, [.ref (U 0), .ref q1, .int 0, .int 0, .int 0, .int 0, .int 0]))] ++ R)) := hD
  have hpm : List.Perm ([(q1, .inl (cI, 5, .inl (fun _ => 0)))] ++ ([(q, .inr (4, [.ref (U 0), .ref q1, .int 0, .int 0, .int 0, .int 0, .int 0]))] ++ R)) ([(q, .inr (4, [.ref (U 0), .ref q1, .int 0, .int 0, .int 0, .int 0, .int 0]))] ++ ([(q1, .inl (cI, 5, .inl (fun _ => 0)))] ++ R)) := gp_swap
  have hP := gp_P hpm hP
  have hD := gp_D hpm hD
  refine W.widen (k := 1) (n := 5) (by decide) (by decide) ?_
  rw [hQm]
  exact mn_ret hx hb hr hlocks hK hS ⟨adr [q, q1], rfl, rfl⟩ hP hD dX4_init_41
set_option maxHeartbeats 8000000 in
set_option maxRecDepth 100000 in
theorem mtX0_init (l : Launch) (D : va_G) (cI cB cK cS : ClassId) (q : Nat) (R : va_W) : MN l yX0_init wsX0_init (rmC 1 1 16) D (tyX cI cB cK cS) pFn ([(q, .inr (0, [.null, .int 0, .int 0, .int 0, .int 0, .int 0, .int 0]))] ++ R) [.ref q] 1 16 (fun w => ∃ K : Nat → Nat, K 0 = q ∧ w = akW K cI 0 0 0 0 0 0 (fun _ => 0) ++ R) := by
  refine mn_intro (cc := cX0_init) (maxL := 1) (ret := none) (by decide) rfl rfl (Nat.le_of_ble_eq_true rfl) ?_
  intro p e s m below meth c A ls H locs Qm hQm hx hb hr hml hts hown hlocks hin hA hS hP hK hD hF hl
  have hown : s.vm.findClass RX0 = some m.cls := hown
  have hl : lv_has ls 1 [(0, .ref q)] := hl
  have k11 := hts (.fieldLink RX0 11 "PigRounds$Asker" "traced" "[I") (by decide +kernel)
  have k15 := hts (.fieldLink RX0 15 "PigRounds$Asker" "tracedCount" "I") (by decide +kernel)
  have k21 := hts (.fieldLink RX0 21 "PigRounds$Asker" "way" "I") (by decide +kernel)
  have k24 := hts (.fieldLink RX0 24 "PigRounds$Asker" "number" "I") (by decide +kernel)
  have k27 := hts (.fieldLink RX0 27 "PigRounds$Asker" "many" "I") (by decide +kernel)
  have k30 := hts (.fieldLink RX0 30 "PigRounds$Asker" "place" "I") (by decide +kernel)
  have k33 := hts (.fieldLink RX0 33 "PigRounds$Asker" "printed" "I") (by decide +kernel)
  have iX0 : ∀ w ∈ u_ws RX0 TX0 7, w ∈ wsX0_init := by decide +kernel
  refine lv_aload_n hx hb dX0_init_0 rfl (lv_at hl 0 rfl) ?_
  refine W.objInit hx hb hown (hts (.methodLink RX0 3 objectInit) (by decide +kernel)) (hts (.instanceMethod objectInit) (by decide +kernel)) (hts _ (List.mem_of_getElem? (i := 3) rfl)) rfl (by rw [hml]; exact hl.1) rfl dX0_init_1 (Nat.le_of_ble_eq_true rfl) (Nat.le_of_ble_eq_true rfl) ?_
  refine W.eq (g2 := F0 m 4 ls []) rfl ?_
  refine lv_aload_n hx hb dX0_init_4 rfl (lv_at hl 0 rfl) ?_
  refine lv_bipush (v := 16) hx hb dX0_init_5 (by decide) ?_
  refine mn_newi (N := 16) hx hb (hts (.arrayClass .int) (by decide +kernel)) hK hP hD hS hA (by decide) (by decide) (by decide) (by decide) (by decide) dX0_init_7 (fun q1 H hP hD hS => ?_)
  have hP : va_P D vwCl ([(q1, .inl (cI, 16, .inl (fun _ => 0)))] ++ ([(q, .inr (0, [.null, .int 0, .int 0, .int 0, .int 0, .int 0, .int 0]))] ++ R)) H := hP
  have hD : va_D A ([(q1, .inl (cI, 16, .inl (fun _ => 0)))] ++ ([(q, .inr (0, [.null, .int 0, .int 0, .int 0, .int 0, .int 0, .int 0]))] ++ R)) := hD
  refine W.widen (k := 1) (n := 16) (by decide) (by decide) ?_
  refine va_putF (D := D) (ci := 0) (v := .ref q1) (ty := tyX0 0) (C := RX0) (T := TX0) (N := 7) hx hb hts iX0 tyX0 tyX0_ok nmX0 hown hK hP hD hS 1 rfl rfl 0 (by decide) k11 (fun _ h9 => h9) rfl hin rfl (tyX0_ok 0 (by decide)) rfl rfl (Nat.le_of_ble_eq_true rfl) dX0_init_9 (fun H locs hP hD hS => ?_)
  have hP : va_P D vwCl ([(q1, .inl (cI, 16, .inl (fun _ => 0)))] ++ ([(q, .inr (0, [.ref q1, .int 0, .int 0, .int 0, .int 0, .int 0, .int 0]))] ++ R)) H := hP
  have hD : va_D A ([(q1, .inl (cI, 16, .inl (fun _ => 0)))] ++ ([(q, .inr (0, [.ref q1, .int 0, .int 0, .int 0, .int 0, .int 0, .int 0]))] ++ R)) := hD
  refine lv_aload_n hx hb dX0_init_12 rfl (lv_at hl 0 rfl) ?_
  refine lv_iconst (v := 0) hx hb dX0_init_13 (by decide) ?_
  refine va_put (D := D) (ci := 0) (v := .int 0) (ty := tyX0 1) (C := RX0) (T := TX0) (N := 7) hx hb hts iX0 tyX0 tyX0_ok nmX0 hown hK hP hD hS 1 rfl rfl 1 (by decide) k15 (fun _ h9 => h9) rfl (tyX0_ok 1 (by decide)) rfl rfl (Nat.le_of_ble_eq_true rfl) dX0_init_14 (fun H locs hP hD hS => ?_)
  have hP : va_P D vwCl ([(q1, .inl (cI, 16, .inl (fun _ => 0)))] ++ ([(q, .inr (0, [.ref q1, .int 0, .int 0, .int 0, .int 0, .int 0, .int 0]))] ++ R)) H := hP
  have hD : va_D A ([(q1, .inl (cI, 16, .inl (fun _ => 0)))] ++ ([(q, .inr (0, [.ref q1, .int 0, .int 0, .int 0, .int 0, .int 0, .int 0]))] ++ R)) := hD
  refine lv_aload_n hx hb dX0_init_17 rfl (lv_at hl 0 rfl) ?_
  refine lv_iconst (v := 0) hx hb dX0_init_18 (by decide) ?_
  refine va_put (D := D) (ci := 0) (v := .int 0) (ty := tyX0 2) (C := RX0) (T := TX0) (N := 7) hx hb hts iX0 tyX0 tyX0_ok nmX0 hown hK hP hD hS 1 rfl rfl 2 (by decide) k21 (fun _ h9 => h9) rfl (tyX0_ok 2 (by decide)) rfl rfl (Nat.le_of_ble_eq_true rfl) dX0_init_19 (fun H locs hP hD hS => ?_)
  have hP : va_P D vwCl ([(q1, .inl (cI, 16, .inl (fun _ => 0)))] ++ ([(q, .inr (0, [.ref q1, .int 0, .int 0, .int 0, .int 0, .int 0, .int 0]))] ++ R)) H := hP
  have hD : va_D A ([(q1, .inl (cI, 16, .inl (fun _ => 0)))] ++ ([(q, .inr (0, [.ref q1, .int 0, .int 0, .int 0, .int 0, .int 0, .int 0]))] ++ R)) := hD
  refine lv_aload_n hx hb dX0_init_22 rfl (lv_at hl 0 rfl) ?_
  refine lv_iconst (v := 0) hx hb dX0_init_23 (by decide) ?_
  refine va_put (D := D) (ci := 0) (v := .int 0) (ty := tyX0 3) (C := RX0) (T := TX0) (N := 7) hx hb hts iX0 tyX0 tyX0_ok nmX0 hown hK hP hD hS 1 rfl rfl 3 (by decide) k24 (fun _ h9 => h9) rfl (tyX0_ok 3 (by decide)) rfl rfl (Nat.le_of_ble_eq_true rfl) dX0_init_24 (fun H locs hP hD hS => ?_)
  have hP : va_P D vwCl ([(q1, .inl (cI, 16, .inl (fun _ => 0)))] ++ ([(q, .inr (0, [.ref q1, .int 0, .int 0, .int 0, .int 0, .int 0, .int 0]))] ++ R)) H := hP
  have hD : va_D A ([(q1, .inl (cI, 16, .inl (fun _ => 0)))] ++ ([(q, .inr (0, [.ref q1, .int 0, .int 0, .int 0, .int 0, .int 0, .int 0]))] ++ R)) := hD
  refine lv_aload_n hx hb dX0_init_27 rfl (lv_at hl 0 rfl) ?_
  refine lv_iconst (v := 0) hx hb dX0_init_28 (by decide) ?_
  refine va_put (D := D) (ci := 0) (v := .int 0) (ty := tyX0 4) (C := RX0) (T := TX0) (N := 7) hx hb hts iX0 tyX0 tyX0_ok nmX0 hown hK hP hD hS 1 rfl rfl 4 (by decide) k27 (fun _ h9 => h9) rfl (tyX0_ok 4 (by decide)) rfl rfl (Nat.le_of_ble_eq_true rfl) dX0_init_29 (fun H locs hP hD hS => ?_)
  have hP : va_P D vwCl ([(q1, .inl (cI, 16, .inl (fun _ => 0)))] ++ ([(q, .inr (0, [.ref q1, .int 0, .int 0, .int 0, .int 0, .int 0, .int 0]))] ++ R)) H := hP
  have hD : va_D A ([(q1, .inl (cI, 16, .inl (fun _ => 0)))] ++ ([(q, .inr (0, [.ref q1, .int 0, .int 0, .int 0, .int 0, .int 0, .int 0]))] ++ R)) := hD
  refine lv_aload_n hx hb dX0_init_32 rfl (lv_at hl 0 rfl) ?_
  refine lv_iconst (v := 0) hx hb dX0_init_33 (by decide) ?_
  refine va_put (D := D) (ci := 0) (v := .int 0) (ty := tyX0 5) (C := RX0) (T := TX0) (N := 7) hx hb hts iX0 tyX0 tyX0_ok nmX0 hown hK hP hD hS 1 rfl rfl 5 (by decide) k30 (fun _ h9 => h9) rfl (tyX0_ok 5 (by decide)) rfl rfl (Nat.le_of_ble_eq_true rfl) dX0_init_34 (fun H locs hP hD hS => ?_)
  have hP : va_P D vwCl ([(q1, .inl (cI, 16, .inl (fun _ => 0)))] ++ ([(q, .inr (0, [.ref q1, .int 0, .int 0, .int 0, .int 0, .int 0, .int 0]))] ++ R)) H := hP
  have hD : va_D A ([(q1, .inl (cI, 16, .inl (fun _ => 0)))] ++ ([(q, .inr (0, [.ref q1, .int 0, .int 0, .int 0, .int 0, .int 0, .int 0]))] ++ R)) := hD
  refine lv_aload_n hx hb dX0_init_37 rfl (lv_at hl 0 rfl) ?_
  refine lv_iconst (v := 0) hx hb dX0_init_38 (by decide) ?_
  refine va_put (D := D) (ci := 0) (v := .int 0) (ty := tyX0 6) (C := RX0) (T := TX0) (N := 7) hx hb hts iX0 tyX0 tyX0_ok nmX0 hown hK hP hD hS 1 rfl rfl 6 (by decide) k33 (fun _ h9 => h9) rfl (tyX0_ok 6 (by decide)) rfl rfl (Nat.le_of_ble_eq_true rfl) dX0_init_39 (fun H locs hP hD hS => ?_)
  have hP : va_P D vwCl ([(q1, .inl (cI, 16, .inl (fun _ => 0)))] ++ ([(q, .inr (0, [.ref q1, .int 0, .int 0, .int 0, .int 0, .int 0, .int 0]))] ++ R)) H := hP
  have hD : va_D A ([(q1, .inl (cI, 16, .inl (fun _ => 0)))] ++ ([(q, .inr (0, [.ref q1, .int 0, .int 0, .int 0, .int 0, .int 0, .int 0]))] ++ R)) := hD
  have hpm : List.Perm ([(q1, .inl (cI, 16, .inl (fun _ => 0)))] ++ ([(q, .inr (0, [.ref q1, .int 0, .int 0, .int 0, .int 0, .int 0, .int 0]))] ++ R)) ([(q, .inr (0, [.ref q1, .int 0, .int 0, .int 0, .int 0, .int 0, .int 0]))] ++ ([(q1, .inl (cI, 16, .inl (fun _ => 0)))] ++ R)) := gp_swap
  have hP := gp_P hpm hP
  have hD := gp_D hpm hD
  refine W.widen (k := 1) (n := 16) (by decide) (by decide) ?_
  rw [hQm]
  exact mn_ret hx hb hr hlocks hK hS ⟨adr [q, q1], rfl, rfl⟩ hP hD dX0_init_42
set_option maxHeartbeats 8000000 in
set_option maxRecDepth 100000 in
theorem mtX2_init (l : Launch) (D : va_G) (cI cB cK cS : ClassId) (q : Nat) (R : va_W) : MN l yX2_init wsX2_init (rmC 2 7 55) D (tyX cI cB cK cS) pFn ([(q, .inr (2, [.null, .null, .int 0, .int 0, .int 0, .int 0, .int 0, .int 0, .int 0, .int 0, .int 0, .int 0]))] ++ R) [.ref q] 7 55 (fun w => ∃ Z : Nat → Nat, Z 0 = q ∧ w = landW Z cK land_f0 (fun _ _ => 0) (fun _ => 0) ++ R) := by
  refine mn_intro (cc := cX2_init) (maxL := 2) (ret := none) (by decide) rfl rfl (Nat.le_of_ble_eq_true rfl) ?_
  intro p e s m below meth c A ls H locs Qm hQm hx hb hr hml hts hown hlocks hin hA hS hP hK hD hF hl
  have hown : s.vm.findClass RX2 = some m.cls := hown
  have hl : lv_has ls 2 [(0, .ref q)] := hl
  have l9 := hts (.classLink RX2 9 RX1) (by decide +kernel)
  have k11 := hts (.fieldLink RX2 11 "PigRounds$Land" "kinds" "[LPigRounds$Kind;") (by decide +kernel)
  have l17 := hts (.classLink RX2 17 RX3) (by decide +kernel)
  have nX3 := hts (.instantiable RX3 5) (by decide +kernel)
  have tX3 := hts (.initialized RX3) (by decide +kernel)
  have k20 := hts (.fieldLink RX2 20 "PigRounds$Land" "ministry" "LPigRounds$Ministry;") (by decide +kernel)
  have k24 := hts (.fieldLink RX2 24 "PigRounds$Land" "kindCount" "I") (by decide +kernel)
  have k28 := hts (.fieldLink RX2 28 "PigRounds$Land" "top" "I") (by decide +kernel)
  have k31 := hts (.fieldLink RX2 31 "PigRounds$Land" "depth" "I") (by decide +kernel)
  have k34 := hts (.fieldLink RX2 34 "PigRounds$Land" "feed" "I") (by decide +kernel)
  have k37 := hts (.fieldLink RX2 37 "PigRounds$Land" "a" "I") (by decide +kernel)
  have k40 := hts (.fieldLink RX2 40 "PigRounds$Land" "b" "I") (by decide +kernel)
  have k43 := hts (.fieldLink RX2 43 "PigRounds$Land" "c" "I") (by decide +kernel)
  have k46 := hts (.fieldLink RX2 46 "PigRounds$Land" "printed" "I") (by decide +kernel)
  have k49 := hts (.fieldLink RX2 49 "PigRounds$Land" "pigs" "I") (by decide +kernel)
  have k52 := hts (.fieldLink RX2 52 "PigRounds$Land" "year" "I") (by decide +kernel)
  have nX1 := hts (.instantiable RX1 9) (by decide +kernel)
  have tX1 := hts (.initialized RX1) (by decide +kernel)
  have iX2 : ∀ w ∈ u_ws RX2 TX2 12, w ∈ wsX2_init := by decide +kernel
  have iX3 : ∀ w ∈ u_ws RX3 TX3 5, w ∈ wsX2_init := by decide +kernel
  have iX1 : ∀ w ∈ u_ws RX1 TX1 9, w ∈ wsX2_init := by decide +kernel
  refine lv_aload_n hx hb dX2_init_0 rfl (lv_at hl 0 rfl) ?_
  refine W.objInit hx hb hown (hts (.methodLink RX2 3 objectInit) (by decide +kernel)) (hts (.instanceMethod objectInit) (by decide +kernel)) (hts _ (List.mem_of_getElem? (i := 3) rfl)) rfl (by rw [hml]; exact hl.1) rfl dX2_init_1 (Nat.le_of_ble_eq_true rfl) (Nat.le_of_ble_eq_true rfl) ?_
  refine W.eq (g2 := F0 m 4 ls []) rfl ?_
  refine lv_aload_n hx hb dX2_init_4 rfl (lv_at hl 0 rfl) ?_
  refine lv_iconst (v := 5) hx hb dX2_init_5 (by decide) ?_
  refine mn_newq (N := 5) 2 rfl hx hb hown l9 hF.1.1 hK hP hD hS hA (by decide) (by decide) (by decide) (by decide) (by decide) dX2_init_6 (fun q1 H hP hD hS => ?_)
  have hP : va_P D vwCl ([(q1, .inl (cK, 5, .inr (.inr (.inr (.inr (fun _ => none))))))] ++ ([(q, .inr (2, [.null, .null, .int 0, .int 0, .int 0, .int 0, .int 0, .int 0, .int 0, .int 0, .int 0, .int 0]))] ++ R)) H := hP
  have hD : va_D A ([(q1, .inl (cK, 5, .inr (.inr (.inr (.inr (fun _ => none))))))] ++ ([(q, .inr (2, [.null, .null, .int 0, .int 0, .int 0, .int 0, .int 0, .int 0, .int 0, .int 0, .int 0, .int 0]))] ++ R)) := hD
  refine W.widen (k := 1) (n := 5) (by decide) (by decide) ?_
  refine va_putF (D := D) (ci := 2) (v := .ref q1) (ty := tyX2 0) (C := RX2) (T := TX2) (N := 12) hx hb hts iX2 tyX2 tyX2_ok nmX2 hown hK hP hD hS 1 rfl rfl 0 (by decide) k11 (fun _ h9 => h9) rfl hin rfl (tyX2_ok 0 (by decide)) rfl rfl (Nat.le_of_ble_eq_true rfl) dX2_init_9 (fun H locs hP hD hS => ?_)
  have hP : va_P D vwCl ([(q1, .inl (cK, 5, .inr (.inr (.inr (.inr (fun _ => none))))))] ++ ([(q, .inr (2, [.ref q1, .null, .int 0, .int 0, .int 0, .int 0, .int 0, .int 0, .int 0, .int 0, .int 0, .int 0]))] ++ R)) H := hP
  have hD : va_D A ([(q1, .inl (cK, 5, .inr (.inr (.inr (.inr (fun _ => none))))))] ++ ([(q, .inr (2, [.ref q1, .null, .int 0, .int 0, .int 0, .int 0, .int 0, .int 0, .int 0, .int 0, .int 0, .int 0]))] ++ R)) := hD
  refine lv_aload_n hx hb dX2_init_12 rfl (lv_at hl 0 rfl) ?_
  refine va_new (ci := 3) (fs := [.int 0, .int 0, .int 0, .int 0, .int 0]) (C := RX3) (T := TX3) (N := 5) hx hb hts iX3 tyX3 tyX3_ok hown l17 nX3 tX3 hK hP hD hS hA rfl (fun j hj => by rcases (show j = 0 ∨ j = 1 ∨ j = 2 ∨ j = 3 ∨ j = 4 by omega) with rfl | rfl | rfl | rfl | rfl <;> rfl) (by decide) (by decide) dX2_init_13 (fun q2 H hP hD hS => ?_)
  have hP := mn_frontP hP
  have hD := mn_frontD hD
  have hP : va_P D vwCl ([(q2, .inr (3, [.int 0, .int 0, .int 0, .int 0, .int 0]))] ++ ([(q1, .inl (cK, 5, .inr (.inr (.inr (.inr (fun _ => none))))))] ++ ([(q, .inr (2, [.ref q1, .null, .int 0, .int 0, .int 0, .int 0, .int 0, .int 0, .int 0, .int 0, .int 0, .int 0]))] ++ R))) H := hP
  have hD : va_D A ([(q2, .inr (3, [.int 0, .int 0, .int 0, .int 0, .int 0]))] ++ ([(q1, .inl (cK, 5, .inr (.inr (.inr (.inr (fun _ => none))))))] ++ ([(q, .inr (2, [.ref q1, .null, .int 0, .int 0, .int 0, .int 0, .int 0, .int 0, .int 0, .int 0, .int 0, .int 0]))] ++ R))) := hD
  refine W.widen (k := 2) (n := 10) (by decide) (by decide) ?_
  refine lv_dup hx hb dX2_init_16 rfl ?_
  refine mn_callN (As := []) (rest := [.ref q2, .ref q]) ⟨hx, hb, hml, hown, hts⟩ (mtX3_init l D cI cB cK cS q2 ([(q1, .inl (cK, 5, .inr (.inr (.inr (.inr (fun _ => none))))))] ++ ([(q, .inr (2, [.ref q1, .null, .int 0, .int 0, .int 0, .int 0, .int 0, .int 0, .int 0, .int 0, .int 0, .int 0]))] ++ R))) ⟨va_cnB 0 hts gX2_init_X3_init_n19 rfl rfl rfl (hF.2 4 (by decide)) (hts (.initialized RX3) (by decide +kernel)) (by decide +kernel) ⟨Nat.le_of_ble_eq_true rfl, Nat.le_of_ble_eq_true rfl⟩, rfl, hts (.instanceMethod yX3_init) (by decide +kernel)⟩ pFn_ok hF hK hP hD hS hA rfl hl.1 rfl (Nat.le_of_ble_eq_true rfl) dX2_init_17 ⟨Nat.le_of_ble_eq_true rfl, Nat.le_of_ble_eq_true rfl⟩ (fun w9 H locs hp3 hP hD hS => ?_)
  obtain rfl := hp3
  have hP : va_P D vwCl ([(q2, .inr (3, [.int 0, .int 0, .int 0, .int 0, .int 0]))] ++ ([(q1, .inl (cK, 5, .inr (.inr (.inr (.inr (fun _ => none))))))] ++ ([(q, .inr (2, [.ref q1, .null, .int 0, .int 0, .int 0, .int 0, .int 0, .int 0, .int 0, .int 0, .int 0, .int 0]))] ++ R))) H := hP
  have hD : va_D A ([(q2, .inr (3, [.int 0, .int 0, .int 0, .int 0, .int 0]))] ++ ([(q1, .inl (cK, 5, .inr (.inr (.inr (.inr (fun _ => none))))))] ++ ([(q, .inr (2, [.ref q1, .null, .int 0, .int 0, .int 0, .int 0, .int 0, .int 0, .int 0, .int 0, .int 0, .int 0]))] ++ R))) := hD
  refine W.widen (k := 2) (n := 10) (by decide) (by decide) ?_
  refine W.eq (g2 := F0 m 20 ls [.ref q2, .ref q]) rfl ?_
  refine va_putF (D := D) (ci := 2) (v := .ref q2) (ty := tyX2 1) (C := RX2) (T := TX2) (N := 12) hx hb hts iX2 tyX2 tyX2_ok nmX2 hown hK hP hD hS 2 rfl rfl 1 (by decide) k20 (fun _ h9 => h9) rfl hin rfl (tyX2_ok 1 (by decide)) rfl rfl (Nat.le_of_ble_eq_true rfl) dX2_init_20 (fun H locs hP hD hS => ?_)
  have hP : va_P D vwCl ([(q2, .inr (3, [.int 0, .int 0, .int 0, .int 0, .int 0]))] ++ ([(q1, .inl (cK, 5, .inr (.inr (.inr (.inr (fun _ => none))))))] ++ ([(q, .inr (2, [.ref q1, .ref q2, .int 0, .int 0, .int 0, .int 0, .int 0, .int 0, .int 0, .int 0, .int 0, .int 0]))] ++ R))) H := hP
  have hD : va_D A ([(q2, .inr (3, [.int 0, .int 0, .int 0, .int 0, .int 0]))] ++ ([(q1, .inl (cK, 5, .inr (.inr (.inr (.inr (fun _ => none))))))] ++ ([(q, .inr (2, [.ref q1, .ref q2, .int 0, .int 0, .int 0, .int 0, .int 0, .int 0, .int 0, .int 0, .int 0, .int 0]))] ++ R))) := hD
  refine lv_aload_n hx hb dX2_init_23 rfl (lv_at hl 0 rfl) ?_
  refine lv_iconst (v := 0) hx hb dX2_init_24 (by decide) ?_
  refine va_put (D := D) (ci := 2) (v := .int 0) (ty := tyX2 2) (C := RX2) (T := TX2) (N := 12) hx hb hts iX2 tyX2 tyX2_ok nmX2 hown hK hP hD hS 2 rfl rfl 2 (by decide) k24 (fun _ h9 => h9) rfl (tyX2_ok 2 (by decide)) rfl rfl (Nat.le_of_ble_eq_true rfl) dX2_init_25 (fun H locs hP hD hS => ?_)
  have hP : va_P D vwCl ([(q2, .inr (3, [.int 0, .int 0, .int 0, .int 0, .int 0]))] ++ ([(q1, .inl (cK, 5, .inr (.inr (.inr (.inr (fun _ => none))))))] ++ ([(q, .inr (2, [.ref q1, .ref q2, .int 0, .int 0, .int 0, .int 0, .int 0, .int 0, .int 0, .int 0, .int 0, .int 0]))] ++ R))) H := hP
  have hD : va_D A ([(q2, .inr (3, [.int 0, .int 0, .int 0, .int 0, .int 0]))] ++ ([(q1, .inl (cK, 5, .inr (.inr (.inr (.inr (fun _ => none))))))] ++ ([(q, .inr (2, [.ref q1, .ref q2, .int 0, .int 0, .int 0, .int 0, .int 0, .int 0, .int 0, .int 0, .int 0, .int 0]))] ++ R))) := hD
  refine lv_aload_n hx hb dX2_init_28 rfl (lv_at hl 0 rfl) ?_
  refine lv_iconst (v := 0) hx hb dX2_init_29 (by decide) ?_
  refine va_put (D := D) (ci := 2) (v := .int 0) (ty := tyX2 3) (C := RX2) (T := TX2) (N := 12) hx hb hts iX2 tyX2 tyX2_ok nmX2 hown hK hP hD hS 2 rfl rfl 3 (by decide) k28 (fun _ h9 => h9) rfl (tyX2_ok 3 (by decide)) rfl rfl (Nat.le_of_ble_eq_true rfl) dX2_init_30 (fun H locs hP hD hS => ?_)
  have hP : va_P D vwCl ([(q2, .inr (3, [.int 0, .int 0, .int 0, .int 0, .int 0]))] ++ ([(q1, .inl (cK, 5, .inr (.inr (.inr (.inr (fun _ => none))))))] ++ ([(q, .inr (2, [.ref q1, .ref q2, .int 0, .int 0, .int 0, .int 0, .int 0, .int 0, .int 0, .int 0, .int 0, .int 0]))] ++ R))) H := hP
  have hD : va_D A ([(q2, .inr (3, [.int 0, .int 0, .int 0, .int 0, .int 0]))] ++ ([(q1, .inl (cK, 5, .inr (.inr (.inr (.inr (fun _ => none))))))] ++ ([(q, .inr (2, [.ref q1, .ref q2, .int 0, .int 0, .int 0, .int 0, .int 0, .int 0, .int 0, .int 0, .int 0, .int 0]))] ++ R))) := hD
  refine lv_aload_n hx hb dX2_init_33 rfl (lv_at hl 0 rfl) ?_
  refine lv_iconst (v := 1) hx hb dX2_init_34 (by decide) ?_
  refine va_put (D := D) (ci := 2) (v := .int 1) (ty := tyX2 4) (C := RX2) (T := TX2) (N := 12) hx hb hts iX2 tyX2 tyX2_ok nmX2 hown hK hP hD hS 2 rfl rfl 4 (by decide) k31 (fun _ h9 => h9) rfl (tyX2_ok 4 (by decide)) rfl rfl (Nat.le_of_ble_eq_true rfl) dX2_init_35 (fun H locs hP hD hS => ?_)
  have hP : va_P D vwCl ([(q2, .inr (3, [.int 0, .int 0, .int 0, .int 0, .int 0]))] ++ ([(q1, .inl (cK, 5, .inr (.inr (.inr (.inr (fun _ => none))))))] ++ ([(q, .inr (2, [.ref q1, .ref q2, .int 0, .int 0, .int 1, .int 0, .int 0, .int 0, .int 0, .int 0, .int 0, .int 0]))] ++ R))) H := hP
  have hD : va_D A ([(q2, .inr (3, [.int 0, .int 0, .int 0, .int 0, .int 0]))] ++ ([(q1, .inl (cK, 5, .inr (.inr (.inr (.inr (fun _ => none))))))] ++ ([(q, .inr (2, [.ref q1, .ref q2, .int 0, .int 0, .int 1, .int 0, .int 0, .int 0, .int 0, .int 0, .int 0, .int 0]))] ++ R))) := hD
  refine lv_aload_n hx hb dX2_init_38 rfl (lv_at hl 0 rfl) ?_
  refine lv_iconst (v := 0) hx hb dX2_init_39 (by decide) ?_
  refine va_put (D := D) (ci := 2) (v := .int 0) (ty := tyX2 5) (C := RX2) (T := TX2) (N := 12) hx hb hts iX2 tyX2 tyX2_ok nmX2 hown hK hP hD hS 2 rfl rfl 5 (by decide) k34 (fun _ h9 => h9) rfl (tyX2_ok 5 (by decide)) rfl rfl (Nat.le_of_ble_eq_true rfl) dX2_init_40 (fun H locs hP hD hS => ?_)
  have hP : va_P D vwCl ([(q2, .inr (3, [.int 0, .int 0, .int 0, .int 0, .int 0]))] ++ ([(q1, .inl (cK, 5, .inr (.inr (.inr (.inr (fun _ => none))))))] ++ ([(q, .inr (2, [.ref q1, .ref q2, .int 0, .int 0, .int 1, .int 0, .int 0, .int 0, .int 0, .int 0, .int 0, .int 0]))] ++ R))) H := hP
  have hD : va_D A ([(q2, .inr (3, [.int 0, .int 0, .int 0, .int 0, .int 0]))] ++ ([(q1, .inl (cK, 5, .inr (.inr (.inr (.inr (fun _ => none))))))] ++ ([(q, .inr (2, [.ref q1, .ref q2, .int 0, .int 0, .int 1, .int 0, .int 0, .int 0, .int 0, .int 0, .int 0, .int 0]))] ++ R))) := hD
  refine lv_aload_n hx hb dX2_init_43 rfl (lv_at hl 0 rfl) ?_
  refine lv_iconst (v := 0) hx hb dX2_init_44 (by decide) ?_
  refine va_put (D := D) (ci := 2) (v := .int 0) (ty := tyX2 6) (C := RX2) (T := TX2) (N := 12) hx hb hts iX2 tyX2 tyX2_ok nmX2 hown hK hP hD hS 2 rfl rfl 6 (by decide) k37 (fun _ h9 => h9) rfl (tyX2_ok 6 (by decide)) rfl rfl (Nat.le_of_ble_eq_true rfl) dX2_init_45 (fun H locs hP hD hS => ?_)
  have hP : va_P D vwCl ([(q2, .inr (3, [.int 0, .int 0, .int 0, .int 0, .int 0]))] ++ ([(q1, .inl (cK, 5, .inr (.inr (.inr (.inr (fun _ => none))))))] ++ ([(q, .inr (2, [.ref q1, .ref q2, .int 0, .int 0, .int 1, .int 0, .int 0, .int 0, .int 0, .int 0, .int 0, .int 0]))] ++ R))) H := hP
  have hD : va_D A ([(q2, .inr (3, [.int 0, .int 0, .int 0, .int 0, .int 0]))] ++ ([(q1, .inl (cK, 5, .inr (.inr (.inr (.inr (fun _ => none))))))] ++ ([(q, .inr (2, [.ref q1, .ref q2, .int 0, .int 0, .int 1, .int 0, .int 0, .int 0, .int 0, .int 0, .int 0, .int 0]))] ++ R))) := hD
  refine lv_aload_n hx hb dX2_init_48 rfl (lv_at hl 0 rfl) ?_
  refine lv_iconst (v := 0) hx hb dX2_init_49 (by decide) ?_
  refine va_put (D := D) (ci := 2) (v := .int 0) (ty := tyX2 7) (C := RX2) (T := TX2) (N := 12) hx hb hts iX2 tyX2 tyX2_ok nmX2 hown hK hP hD hS 2 rfl rfl 7 (by decide) k40 (fun _ h9 => h9) rfl (tyX2_ok 7 (by decide)) rfl rfl (Nat.le_of_ble_eq_true rfl) dX2_init_50 (fun H locs hP hD hS => ?_)
  have hP : va_P D vwCl ([(q2, .inr (3, [.int 0, .int 0, .int 0, .int 0, .int 0]))] ++ ([(q1, .inl (cK, 5, .inr (.inr (.inr (.inr (fun _ => none))))))] ++ ([(q, .inr (2, [.ref q1, .ref q2, .int 0, .int 0, .int 1, .int 0, .int 0, .int 0, .int 0, .int 0, .int 0, .int 0]))] ++ R))) H := hP
  have hD : va_D A ([(q2, .inr (3, [.int 0, .int 0, .int 0, .int 0, .int 0]))] ++ ([(q1, .inl (cK, 5, .inr (.inr (.inr (.inr (fun _ => none))))))] ++ ([(q, .inr (2, [.ref q1, .ref q2, .int 0, .int 0, .int 1, .int 0, .int 0, .int 0, .int 0, .int 0, .int 0, .int 0]))] ++ R))) := hD
  refine lv_aload_n hx hb dX2_init_53 rfl (lv_at hl 0 rfl) ?_
  refine lv_iconst (v := 0) hx hb dX2_init_54 (by decide) ?_
  refine va_put (D := D) (ci := 2) (v := .int 0) (ty := tyX2 8) (C := RX2) (T := TX2) (N := 12) hx hb hts iX2 tyX2 tyX2_ok nmX2 hown hK hP hD hS 2 rfl rfl 8 (by decide) k43 (fun _ h9 => h9) rfl (tyX2_ok 8 (by decide)) rfl rfl (Nat.le_of_ble_eq_true rfl) dX2_init_55 (fun H locs hP hD hS => ?_)
  have hP : va_P D vwCl ([(q2, .inr (3, [.int 0, .int 0, .int 0, .int 0, .int 0]))] ++ ([(q1, .inl (cK, 5, .inr (.inr (.inr (.inr (fun _ => none))))))] ++ ([(q, .inr (2, [.ref q1, .ref q2, .int 0, .int 0, .int 1, .int 0, .int 0, .int 0, .int 0, .int 0, .int 0, .int 0]))] ++ R))) H := hP
  have hD : va_D A ([(q2, .inr (3, [.int 0, .int 0, .int 0, .int 0, .int 0]))] ++ ([(q1, .inl (cK, 5, .inr (.inr (.inr (.inr (fun _ => none))))))] ++ ([(q, .inr (2, [.ref q1, .ref q2, .int 0, .int 0, .int 1, .int 0, .int 0, .int 0, .int 0, .int 0, .int 0, .int 0]))] ++ R))) := hD
  refine lv_aload_n hx hb dX2_init_58 rfl (lv_at hl 0 rfl) ?_
  refine lv_iconst (v := 0) hx hb dX2_init_59 (by decide) ?_
  refine va_put (D := D) (ci := 2) (v := .int 0) (ty := tyX2 9) (C := RX2) (T := TX2) (N := 12) hx hb hts iX2 tyX2 tyX2_ok nmX2 hown hK hP hD hS 2 rfl rfl 9 (by decide) k46 (fun _ h9 => h9) rfl (tyX2_ok 9 (by decide)) rfl rfl (Nat.le_of_ble_eq_true rfl) dX2_init_60 (fun H locs hP hD hS => ?_)
  have hP : va_P D vwCl ([(q2, .inr (3, [.int 0, .int 0, .int 0, .int 0, .int 0]))] ++ ([(q1, .inl (cK, 5, .inr (.inr (.inr (.inr (fun _ => none))))))] ++ ([(q, .inr (2, [.ref q1, .ref q2, .int 0, .int 0, .int 1, .int 0, .int 0, .int 0, .int 0, .int 0, .int 0, .int 0]))] ++ R))) H := hP
  have hD : va_D A ([(q2, .inr (3, [.int 0, .int 0, .int 0, .int 0, .int 0]))] ++ ([(q1, .inl (cK, 5, .inr (.inr (.inr (.inr (fun _ => none))))))] ++ ([(q, .inr (2, [.ref q1, .ref q2, .int 0, .int 0, .int 1, .int 0, .int 0, .int 0, .int 0, .int 0, .int 0, .int 0]))] ++ R))) := hD
  refine lv_aload_n hx hb dX2_init_63 rfl (lv_at hl 0 rfl) ?_
  refine lv_iconst (v := 0) hx hb dX2_init_64 (by decide) ?_
  refine va_put (D := D) (ci := 2) (v := .int 0) (ty := tyX2 10) (C := RX2) (T := TX2) (N := 12) hx hb hts iX2 tyX2 tyX2_ok nmX2 hown hK hP hD hS 2 rfl rfl 10 (by decide) k49 (fun _ h9 => h9) rfl (tyX2_ok 10 (by decide)) rfl rfl (Nat.le_of_ble_eq_true rfl) dX2_init_65 (fun H locs hP hD hS => ?_)
  have hP : va_P D vwCl ([(q2, .inr (3, [.int 0, .int 0, .int 0, .int 0, .int 0]))] ++ ([(q1, .inl (cK, 5, .inr (.inr (.inr (.inr (fun _ => none))))))] ++ ([(q, .inr (2, [.ref q1, .ref q2, .int 0, .int 0, .int 1, .int 0, .int 0, .int 0, .int 0, .int 0, .int 0, .int 0]))] ++ R))) H := hP
  have hD : va_D A ([(q2, .inr (3, [.int 0, .int 0, .int 0, .int 0, .int 0]))] ++ ([(q1, .inl (cK, 5, .inr (.inr (.inr (.inr (fun _ => none))))))] ++ ([(q, .inr (2, [.ref q1, .ref q2, .int 0, .int 0, .int 1, .int 0, .int 0, .int 0, .int 0, .int 0, .int 0, .int 0]))] ++ R))) := hD
  refine lv_aload_n hx hb dX2_init_68 rfl (lv_at hl 0 rfl) ?_
  refine lv_iconst (v := 0) hx hb dX2_init_69 (by decide) ?_
  refine va_put (D := D) (ci := 2) (v := .int 0) (ty := tyX2 11) (C := RX2) (T := TX2) (N := 12) hx hb hts iX2 tyX2 tyX2_ok nmX2 hown hK hP hD hS 2 rfl rfl 11 (by decide) k52 (fun _ h9 => h9) rfl (tyX2_ok 11 (by decide)) rfl rfl (Nat.le_of_ble_eq_true rfl) dX2_init_70 (fun H locs hP hD hS => ?_)
  have hP : va_P D vwCl ([(q2, .inr (3, [.int 0, .int 0, .int 0, .int 0, .int 0]))] ++ ([(q1, .inl (cK, 5, .inr (.inr (.inr (.inr (fun _ => none))))))] ++ ([(q, .inr (2, [.ref q1, .ref q2, .int 0, .int 0, .int 1, .int 0, .int 0, .int 0, .int 0, .int 0, .int 0, .int 0]))] ++ R))) H := hP
  have hD : va_D A ([(q2, .inr (3, [.int 0, .int 0, .int 0, .int 0, .int 0]))] ++ ([(q1, .inl (cK, 5, .inr (.inr (.inr (.inr (fun _ => none))))))] ++ ([(q, .inr (2, [.ref q1, .ref q2, .int 0, .int 0, .int 1, .int 0, .int 0, .int 0, .int 0, .int 0, .int 0, .int 0]))] ++ R))) := hD
  refine lv_iconst (v := 0) hx hb dX2_init_73 (by decide) ?_
  refine lv_istore_n (lv' := [(1, .int 0), (0, .ref q)]) hx hb dX2_init_74 rfl hl (by decide) rfl (fun ls hl => ?_)
  refine lv_iload_n hx hb dX2_init_75 rfl (lv_at hl 0 rfl) ?_
  refine lv_aload_n hx hb dX2_init_76 rfl (lv_at hl 1 rfl) ?_
  refine va_get (D := D) (ci := 2) (v := .ref q1) (C := RX2) (T := TX2) (N := 12) hx hb hts iX2 hown hK hP 2 rfl rfl 0 (by decide) k11 (fun _ h9 => h9) rfl dX2_init_77 ?_
  refine va_alen (v := 5) hx hb hK hP 1 2 rfl rfl rfl dX2_init_80 ?_
  refine lv_icmp_ge (tgt := 103) hx hb dX2_init_81 (by decide) (fun c9 => absurd c9 (by decide)) (fun _ => ?_)
  refine lv_aload_n hx hb dX2_init_84 rfl (lv_at hl 1 rfl) ?_
  refine va_get (D := D) (ci := 2) (v := .ref q1) (C := RX2) (T := TX2) (N := 12) hx hb hts iX2 hown hK hP 2 rfl rfl 0 (by decide) k11 (fun _ h9 => h9) rfl dX2_init_85 ?_
  refine lv_iload_n hx hb dX2_init_88 rfl (lv_at hl 0 rfl) ?_
  refine va_new (ci := 1) (fs := [.int 0, .int 0, .int 0, .int 0, .int 0, .int 0, .int 0, .int 0, .int 0]) (C := RX1) (T := TX1) (N := 9) hx hb hts iX1 tyX1 tyX1_ok hown l9 nX1 tX1 hK hP hD hS hA rfl (fun j hj => by rcases (show j = 0 ∨ j = 1 ∨ j = 2 ∨ j = 3 ∨ j = 4 ∨ j = 5 ∨ j = 6 ∨ j = 7 ∨ j = 8 by omega) with rfl | rfl | rfl | rfl | rfl | rfl | rfl | rfl | rfl <;> rfl) (by decide) (by decide) dX2_init_89 (fun q4 H hP hD hS => ?_)
  have hP := mn_frontP hP
  have hD := mn_frontD hD
  have hP : va_P D vwCl ([(q4, .inr (1, [.int 0, .int 0, .int 0, .int 0, .int 0, .int 0, .int 0, .int 0, .int 0]))] ++ ([(q2, .inr (3, [.int 0, .int 0, .int 0, .int 0, .int 0]))] ++ ([(q1, .inl (cK, 5, .inr (.inr (.inr (.inr (fun _ => none))))))] ++ ([(q, .inr (2, [.ref q1, .ref q2, .int 0, .int 0, .int 1, .int 0, .int 0, .int 0, .int 0, .int 0, .int 0, .int 0]))] ++ R)))) H := hP
  have hD : va_D A ([(q4, .inr (1, [.int 0, .int 0, .int 0, .int 0, .int 0, .int 0, .int 0, .int 0, .int 0]))] ++ ([(q2, .inr (3, [.int 0, .int 0, .int 0, .int 0, .int 0]))] ++ ([(q1, .inl (cK, 5, .inr (.inr (.inr (.inr (fun _ => none))))))] ++ ([(q, .inr (2, [.ref q1, .ref q2, .int 0, .int 0, .int 1, .int 0, .int 0, .int 0, .int 0, .int 0, .int 0, .int 0]))] ++ R)))) := hD
  refine W.widen (k := 3) (n := 19) (by decide) (by decide) ?_
  refine lv_dup hx hb dX2_init_92 rfl ?_
  refine mn_callN (As := []) (rest := [.ref q4, .int 0, .ref q1]) ⟨hx, hb, hml, hown, hts⟩ (mtX1_init l D cI cB cK cS q4 ([(q2, .inr (3, [.int 0, .int 0, .int 0, .int 0, .int 0]))] ++ ([(q1, .inl (cK, 5, .inr (.inr (.inr (.inr (fun _ => none))))))] ++ ([(q, .inr (2, [.ref q1, .ref q2, .int 0, .int 0, .int 1, .int 0, .int 0, .int 0, .int 0, .int 0, .int 0, .int 0]))] ++ R)))) ⟨va_cnB 0 hts gX2_init_X1_init_n55 rfl rfl rfl (hF.2 5 (by decide)) (hts (.initialized RX1) (by decide +kernel)) (by decide +kernel) ⟨Nat.le_of_ble_eq_true rfl, Nat.le_of_ble_eq_true rfl⟩, rfl, hts (.instanceMethod yX1_init) (by decide +kernel)⟩ pFn_ok hF hK hP hD hS hA rfl hl.1 rfl (Nat.le_of_ble_eq_true rfl) dX2_init_93 ⟨Nat.le_of_ble_eq_true rfl, Nat.le_of_ble_eq_true rfl⟩ (fun w9 H locs hp5 hP hD hS => ?_)
  obtain rfl := hp5
  have hP : va_P D vwCl ([(q4, .inr (1, [.int 0, .int 0, .int 0, .int 0, .int 0, .int 0, .int 0, .int 0, .int 0]))] ++ ([(q2, .inr (3, [.int 0, .int 0, .int 0, .int 0, .int 0]))] ++ ([(q1, .inl (cK, 5, .inr (.inr (.inr (.inr (fun _ => none))))))] ++ ([(q, .inr (2, [.ref q1, .ref q2, .int 0, .int 0, .int 1, .int 0, .int 0, .int 0, .int 0, .int 0, .int 0, .int 0]))] ++ R)))) H := hP
  have hD : va_D A ([(q4, .inr (1, [.int 0, .int 0, .int 0, .int 0, .int 0, .int 0, .int 0, .int 0, .int 0]))] ++ ([(q2, .inr (3, [.int 0, .int 0, .int 0, .int 0, .int 0]))] ++ ([(q1, .inl (cK, 5, .inr (.inr (.inr (.inr (fun _ => none))))))] ++ ([(q, .inr (2, [.ref q1, .ref q2, .int 0, .int 0, .int 1, .int 0, .int 0, .int 0, .int 0, .int 0, .int 0, .int 0]))] ++ R)))) := hD
  refine W.widen (k := 3) (n := 19) (by decide) (by decide) ?_
  refine W.eq (g2 := F0 m 96 ls [.ref q4, .int 0, .ref q1]) rfl ?_
  refine va_astq (i := 0) (n := 5) hx hb hK hP hD hS 2 2 0 1 rfl rfl rfl rfl (vp_in_iff.mpr (by decide)) dX2_init_96 (fun H locs hP hD hS => ?_)
  have hP : va_P D vwCl ([(q4, .inr (1, [.int 0, .int 0, .int 0, .int 0, .int 0, .int 0, .int 0, .int 0, .int 0]))] ++ ([(q2, .inr (3, [.int 0, .int 0, .int 0, .int 0, .int 0]))] ++ ([(q1, .inl (cK, 5, .inr (.inr (.inr (.inr (va_up (fun _ => none) 0 (some q4)))))))] ++ ([(q, .inr (2, [.ref q1, .ref q2, .int 0, .int 0, .int 1, .int 0, .int 0, .int 0, .int 0, .int 0, .int 0, .int 0]))] ++ R)))) H := hP
  have hD : va_D A ([(q4, .inr (1, [.int 0, .int 0, .int 0, .int 0, .int 0, .int 0, .int 0, .int 0, .int 0]))] ++ ([(q2, .inr (3, [.int 0, .int 0, .int 0, .int 0, .int 0]))] ++ ([(q1, .inl (cK, 5, .inr (.inr (.inr (.inr (va_up (fun _ => none) 0 (some q4)))))))] ++ ([(q, .inr (2, [.ref q1, .ref q2, .int 0, .int 0, .int 1, .int 0, .int 0, .int 0, .int 0, .int 0, .int 0, .int 0]))] ++ R)))) := hD
  refine lv_iinc (v := 1) (lv' := [(1, .int 1), (0, .ref q)]) hx hb dX2_init_97 hl (k := 0) rfl (by decide) (by decide) rfl (fun ls hl => ?_)
  refine lv_goto (tgt := 75) hx hb dX2_init_100 (by decide) ?_
  refine lv_iload_n hx hb dX2_init_75 rfl (lv_at hl 0 rfl) ?_
  refine lv_aload_n hx hb dX2_init_76 rfl (lv_at hl 1 rfl) ?_
  refine va_get (D := D) (ci := 2) (v := .ref q1) (C := RX2) (T := TX2) (N := 12) hx hb hts iX2 hown hK hP 3 rfl rfl 0 (by decide) k11 (fun _ h9 => h9) rfl dX2_init_77 ?_
  refine va_alen (v := 5) hx hb hK hP 2 2 rfl rfl rfl dX2_init_80 ?_
  refine lv_icmp_ge (tgt := 103) hx hb dX2_init_81 (by decide) (fun c9 => absurd c9 (by decide)) (fun _ => ?_)
  refine lv_aload_n hx hb dX2_init_84 rfl (lv_at hl 1 rfl) ?_
  refine va_get (D := D) (ci := 2) (v := .ref q1) (C := RX2) (T := TX2) (N := 12) hx hb hts iX2 hown hK hP 3 rfl rfl 0 (by decide) k11 (fun _ h9 => h9) rfl dX2_init_85 ?_
  refine lv_iload_n hx hb dX2_init_88 rfl (lv_at hl 0 rfl) ?_
  refine va_new (ci := 1) (fs := [.int 0, .int 0, .int 0, .int 0, .int 0, .int 0, .int 0, .int 0, .int 0]) (C := RX1) (T := TX1) (N := 9) hx hb hts iX1 tyX1 tyX1_ok hown l9 nX1 tX1 hK hP hD hS hA rfl (fun j hj => by rcases (show j = 0 ∨ j = 1 ∨ j = 2 ∨ j = 3 ∨ j = 4 ∨ j = 5 ∨ j = 6 ∨ j = 7 ∨ j = 8 by omega) with rfl | rfl | rfl | rfl | rfl | rfl | rfl | rfl | rfl <;> rfl) (by decide) (by decide) dX2_init_89 (fun q6 H hP hD hS => ?_)
  have hP := mn_frontP hP
  have hD := mn_frontD hD
  have hP : va_P D vwCl ([(q6, .inr (1, [.int 0, .int 0, .int 0, .int 0, .int 0, .int 0, .int 0, .int 0, .int 0]))] ++ ([(q4, .inr (1, [.int 0, .int 0, .int 0, .int 0, .int 0, .int 0, .int 0, .int 0, .int 0]))] ++ ([(q2, .inr (3, [.int 0, .int 0, .int 0, .int 0, .int 0]))] ++ ([(q1, .inl (cK, 5, .inr (.inr (.inr (.inr (va_up (fun _ => none) 0 (some q4)))))))] ++ ([(q, .inr (2, [.ref q1, .ref q2, .int 0, .int 0, .int 1, .int 0, .int 0, .int 0, .int 0, .int 0, .int 0, .int 0]))] ++ R))))) H := hP
  have hD : va_D A ([(q6, .inr (1, [.int 0, .int 0, .int 0, .int 0, .int 0, .int 0, .int 0, .int 0, .int 0]))] ++ ([(q4, .inr (1, [.int 0, .int 0, .int 0, .int 0, .int 0, .int 0, .int 0, .int 0, .int 0]))] ++ ([(q2, .inr (3, [.int 0, .int 0, .int 0, .int 0, .int 0]))] ++ ([(q1, .inl (cK, 5, .inr (.inr (.inr (.inr (va_up (fun _ => none) 0 (some q4)))))))] ++ ([(q, .inr (2, [.ref q1, .ref q2, .int 0, .int 0, .int 1, .int 0, .int 0, .int 0, .int 0, .int 0, .int 0, .int 0]))] ++ R))))) := hD
  refine W.widen (k := 4) (n := 28) (by decide) (by decide) ?_
  refine lv_dup hx hb dX2_init_92 rfl ?_
  refine mn_callN (As := []) (rest := [.ref q6, .int 1, .ref q1]) ⟨hx, hb, hml, hown, hts⟩ (mtX1_init l D cI cB cK cS q6 ([(q4, .inr (1, [.int 0, .int 0, .int 0, .int 0, .int 0, .int 0, .int 0, .int 0, .int 0]))] ++ ([(q2, .inr (3, [.int 0, .int 0, .int 0, .int 0, .int 0]))] ++ ([(q1, .inl (cK, 5, .inr (.inr (.inr (.inr (va_up (fun _ => none) 0 (some q4)))))))] ++ ([(q, .inr (2, [.ref q1, .ref q2, .int 0, .int 0, .int 1, .int 0, .int 0, .int 0, .int 0, .int 0, .int 0, .int 0]))] ++ R))))) ⟨va_cnB 0 hts gX2_init_X1_init_n55 rfl rfl rfl (hF.2 5 (by decide)) (hts (.initialized RX1) (by decide +kernel)) (by decide +kernel) ⟨Nat.le_of_ble_eq_true rfl, Nat.le_of_ble_eq_true rfl⟩, rfl, hts (.instanceMethod yX1_init) (by decide +kernel)⟩ pFn_ok hF hK hP hD hS hA rfl hl.1 rfl (Nat.le_of_ble_eq_true rfl) dX2_init_93 ⟨Nat.le_of_ble_eq_true rfl, Nat.le_of_ble_eq_true rfl⟩ (fun w9 H locs hp7 hP hD hS => ?_)
  obtain rfl := hp7
  have hP : va_P D vwCl ([(q6, .inr (1, [.int 0, .int 0, .int 0, .int 0, .int 0, .int 0, .int 0, .int 0, .int 0]))] ++ ([(q4, .inr (1, [.int 0, .int 0, .int 0, .int 0, .int 0, .int 0, .int 0, .int 0, .int 0]))] ++ ([(q2, .inr (3, [.int 0, .int 0, .int 0, .int 0, .int 0]))] ++ ([(q1, .inl (cK, 5, .inr (.inr (.inr (.inr (va_up (fun _ => none) 0 (some q4)))))))] ++ ([(q, .inr (2, [.ref q1, .ref q2, .int 0, .int 0, .int 1, .int 0, .int 0, .int 0, .int 0, .int 0, .int 0, .int 0]))] ++ R))))) H := hP
  have hD : va_D A ([(q6, .inr (1, [.int 0, .int 0, .int 0, .int 0, .int 0, .int 0, .int 0, .int 0, .int 0]))] ++ ([(q4, .inr (1, [.int 0, .int 0, .int 0, .int 0, .int 0, .int 0, .int 0, .int 0, .int 0]))] ++ ([(q2, .inr (3, [.int 0, .int 0, .int 0, .int 0, .int 0]))] ++ ([(q1, .inl (cK, 5, .inr (.inr (.inr (.inr (va_up (fun _ => none) 0 (some q4)))))))] ++ ([(q, .inr (2, [.ref q1, .ref q2, .int 0, .int 0, .int 1, .int 0, .int 0, .int 0, .int 0, .int 0, .int 0, .int 0]))] ++ R))))) := hD
  refine W.widen (k := 4) (n := 28) (by decide) (by decide) ?_
  refine W.eq (g2 := F0 m 96 ls [.ref q6, .int 1, .ref q1]) rfl ?_
  refine va_astq (i := 1) (n := 5) hx hb hK hP hD hS 3 2 0 1 rfl rfl rfl rfl (vp_in_iff.mpr (by decide)) dX2_init_96 (fun H locs hP hD hS => ?_)
  have hP : va_P D vwCl ([(q6, .inr (1, [.int 0, .int 0, .int 0, .int 0, .int 0, .int 0, .int 0, .int 0, .int 0]))] ++ ([(q4, .inr (1, [.int 0, .int 0, .int 0, .int 0, .int 0, .int 0, .int 0, .int 0, .int 0]))] ++ ([(q2, .inr (3, [.int 0, .int 0, .int 0, .int 0, .int 0]))] ++ ([(q1, .inl (cK, 5, .inr (.inr (.inr (.inr (va_up (va_up (fun _ => none) 0 (some q4)) 1 (some q6)))))))] ++ ([(q, .inr (2, [.ref q1, .ref q2, .int 0, .int 0, .int 1, .int 0, .int 0, .int 0, .int 0, .int 0, .int 0, .int 0]))] ++ R))))) H := hP
  have hD : va_D A ([(q6, .inr (1, [.int 0, .int 0, .int 0, .int 0, .int 0, .int 0, .int 0, .int 0, .int 0]))] ++ ([(q4, .inr (1, [.int 0, .int 0, .int 0, .int 0, .int 0, .int 0, .int 0, .int 0, .int 0]))] ++ ([(q2, .inr (3, [.int 0, .int 0, .int 0, .int 0, .int 0]))] ++ ([(q1, .inl (cK, 5, .inr (.inr (.inr (.inr (va_up (va_up (fun _ => none) 0 (some q4)) 1 (some q6)))))))] ++ ([(q, .inr (2, [.ref q1, .ref q2, .int 0, .int 0, .int 1, .int 0, .int 0, .int 0, .int 0, .int 0, .int 0, .int 0]))] ++ R))))) := hD
  refine lv_iinc (v := 2) (lv' := [(1, .int 2), (0, .ref q)]) hx hb dX2_init_97 hl (k := 0) rfl (by decide) (by decide) rfl (fun ls hl => ?_)
  refine lv_goto (tgt := 75) hx hb dX2_init_100 (by decide) ?_
  refine lv_iload_n hx hb dX2_init_75 rfl (lv_at hl 0 rfl) ?_
  refine lv_aload_n hx hb dX2_init_76 rfl (lv_at hl 1 rfl) ?_
  refine va_get (D := D) (ci := 2) (v := .ref q1) (C := RX2) (T := TX2) (N := 12) hx hb hts iX2 hown hK hP 4 rfl rfl 0 (by decide) k11 (fun _ h9 => h9) rfl dX2_init_77 ?_
  refine va_alen (v := 5) hx hb hK hP 3 2 rfl rfl rfl dX2_init_80 ?_
  refine lv_icmp_ge (tgt := 103) hx hb dX2_init_81 (by decide) (fun c9 => absurd c9 (by decide)) (fun _ => ?_)
  refine lv_aload_n hx hb dX2_init_84 rfl (lv_at hl 1 rfl) ?_
  refine va_get (D := D) (ci := 2) (v := .ref q1) (C := RX2) (T := TX2) (N := 12) hx hb hts iX2 hown hK hP 4 rfl rfl 0 (by decide) k11 (fun _ h9 => h9) rfl dX2_init_85 ?_
  refine lv_iload_n hx hb dX2_init_88 rfl (lv_at hl 0 rfl) ?_
  refine va_new (ci := 1) (fs := [.int 0, .int 0, .int 0, .int 0, .int 0, .int 0, .int 0, .int 0, .int 0]) (C := RX1) (T := TX1) (N := 9) hx hb hts iX1 tyX1 tyX1_ok hown l9 nX1 tX1 hK hP hD hS hA rfl (fun j hj => by rcases (show j = 0 ∨ j = 1 ∨ j = 2 ∨ j = 3 ∨ j = 4 ∨ j = 5 ∨ j = 6 ∨ j = 7 ∨ j = 8 by omega) with rfl | rfl | rfl | rfl | rfl | rfl | rfl | rfl | rfl <;> rfl) (by decide) (by decide) dX2_init_89 (fun q8 H hP hD hS => ?_)
  have hP := mn_frontP hP
  have hD := mn_frontD hD
  have hP : va_P D vwCl ([(q8, .inr (1, [.int 0, .int 0, .int 0, .int 0, .int 0, .int 0, .int 0, .int 0, .int 0]))] ++ ([(q6, .inr (1, [.int 0, .int 0, .int 0, .int 0, .int 0, .int 0, .int 0, .int 0, .int 0]))] ++ ([(q4, .inr (1, [.int 0, .int 0, .int 0, .int 0, .int 0, .int 0, .int 0, .int 0, .int 0]))] ++ ([(q2, .inr (3, [.int 0, .int 0, .int 0, .int 0, .int 0]))] ++ ([(q1, .inl (cK, 5, .inr (.inr (.inr (.inr (va_up (va_up (fun _ => none) 0 (some q4)) 1 (some q6)))))))] ++ ([(q, .inr (2, [.ref q1, .ref q2, .int 0, .int 0, .int 1, .int 0, .int 0, .int 0, .int 0, .int 0, .int 0, .int 0]))] ++ R)))))) H := hP
  have hD : va_D A ([(q8, .inr (1, [.int 0, .int 0, .int 0, .int 0, .int 0, .int 0, .int 0, .int 0, .int 0]))] ++ ([(q6, .inr (1, [.int 0, .int 0, .int 0, .int 0, .int 0, .int 0, .int 0, .int 0, .int 0]))] ++ ([(q4, .inr (1, [.int 0, .int 0, .int 0, .int 0, .int 0, .int 0, .int 0, .int 0, .int 0]))] ++ ([(q2, .inr (3, [.int 0, .int 0, .int 0, .int 0, .int 0]))] ++ ([(q1, .inl (cK, 5, .inr (.inr (.inr (.inr (va_up (va_up (fun _ => none) 0 (some q4)) 1 (some q6)))))))] ++ ([(q, .inr (2, [.ref q1, .ref q2, .int 0, .int 0, .int 1, .int 0, .int 0, .int 0, .int 0, .int 0, .int 0, .int 0]))] ++ R)))))) := hD
  refine W.widen (k := 5) (n := 37) (by decide) (by decide) ?_
  refine lv_dup hx hb dX2_init_92 rfl ?_
  refine mn_callN (As := []) (rest := [.ref q8, .int 2, .ref q1]) ⟨hx, hb, hml, hown, hts⟩ (mtX1_init l D cI cB cK cS q8 ([(q6, .inr (1, [.int 0, .int 0, .int 0, .int 0, .int 0, .int 0, .int 0, .int 0, .int 0]))] ++ ([(q4, .inr (1, [.int 0, .int 0, .int 0, .int 0, .int 0, .int 0, .int 0, .int 0, .int 0]))] ++ ([(q2, .inr (3, [.int 0, .int 0, .int 0, .int 0, .int 0]))] ++ ([(q1, .inl (cK, 5, .inr (.inr (.inr (.inr (va_up (va_up (fun _ => none) 0 (some q4)) 1 (some q6)))))))] ++ ([(q, .inr (2, [.ref q1, .ref q2, .int 0, .int 0, .int 1, .int 0, .int 0, .int 0, .int 0, .int 0, .int 0, .int 0]))] ++ R)))))) ⟨va_cnB 0 hts gX2_init_X1_init_n55 rfl rfl rfl (hF.2 5 (by decide)) (hts (.initialized RX1) (by decide +kernel)) (by decide +kernel) ⟨Nat.le_of_ble_eq_true rfl, Nat.le_of_ble_eq_true rfl⟩, rfl, hts (.instanceMethod yX1_init) (by decide +kernel)⟩ pFn_ok hF hK hP hD hS hA rfl hl.1 rfl (Nat.le_of_ble_eq_true rfl) dX2_init_93 ⟨Nat.le_of_ble_eq_true rfl, Nat.le_of_ble_eq_true rfl⟩ (fun w9 H locs hp9 hP hD hS => ?_)
  obtain rfl := hp9
  have hP : va_P D vwCl ([(q8, .inr (1, [.int 0, .int 0, .int 0, .int 0, .int 0, .int 0, .int 0, .int 0, .int 0]))] ++ ([(q6, .inr (1, [.int 0, .int 0, .int 0, .int 0, .int 0, .int 0, .int 0, .int 0, .int 0]))] ++ ([(q4, .inr (1, [.int 0, .int 0, .int 0, .int 0, .int 0, .int 0, .int 0, .int 0, .int 0]))] ++ ([(q2, .inr (3, [.int 0, .int 0, .int 0, .int 0, .int 0]))] ++ ([(q1, .inl (cK, 5, .inr (.inr (.inr (.inr (va_up (va_up (fun _ => none) 0 (some q4)) 1 (some q6)))))))] ++ ([(q, .inr (2, [.ref q1, .ref q2, .int 0, .int 0, .int 1, .int 0, .int 0, .int 0, .int 0, .int 0, .int 0, .int 0]))] ++ R)))))) H := hP
  have hD : va_D A ([(q8, .inr (1, [.int 0, .int 0, .int 0, .int 0, .int 0, .int 0, .int 0, .int 0, .int 0]))] ++ ([(q6, .inr (1, [.int 0, .int 0, .int 0, .int 0, .int 0, .int 0, .int 0, .int 0, .int 0]))] ++ ([(q4, .inr (1, [.int 0, .int 0, .int 0, .int 0, .int 0, .int 0, .int 0, .int 0, .int 0]))] ++ ([(q2, .inr (3, [.int 0, .int 0, .int 0, .int 0, .int 0]))] ++ ([(q1, .inl (cK, 5, .inr (.inr (.inr (.inr (va_up (va_up (fun _ => none) 0 (some q4)) 1 (some q6)))))))] ++ ([(q, .inr (2, [.ref q1, .ref q2, .int 0, .int 0, .int 1, .int 0, .int 0, .int 0, .int 0, .int 0, .int 0, .int 0]))] ++ R)))))) := hD
  refine W.widen (k := 5) (n := 37) (by decide) (by decide) ?_
  refine W.eq (g2 := F0 m 96 ls [.ref q8, .int 2, .ref q1]) rfl ?_
  refine va_astq (i := 2) (n := 5) hx hb hK hP hD hS 4 2 0 1 rfl rfl rfl rfl (vp_in_iff.mpr (by decide)) dX2_init_96 (fun H locs hP hD hS => ?_)
  have hP : va_P D vwCl ([(q8, .inr (1, [.int 0, .int 0, .int 0, .int 0, .int 0, .int 0, .int 0, .int 0, .int 0]))] ++ ([(q6, .inr (1, [.int 0, .int 0, .int 0, .int 0, .int 0, .int 0, .int 0, .int 0, .int 0]))] ++ ([(q4, .inr (1, [.int 0, .int 0, .int 0, .int 0, .int 0, .int 0, .int 0, .int 0, .int 0]))] ++ ([(q2, .inr (3, [.int 0, .int 0, .int 0, .int 0, .int 0]))] ++ ([(q1, .inl (cK, 5, .inr (.inr (.inr (.inr (va_up (va_up (va_up (fun _ => none) 0 (some q4)) 1 (some q6)) 2 (some q8)))))))] ++ ([(q, .inr (2, [.ref q1, .ref q2, .int 0, .int 0, .int 1, .int 0, .int 0, .int 0, .int 0, .int 0, .int 0, .int 0]))] ++ R)))))) H := hP
  have hD : va_D A ([(q8, .inr (1, [.int 0, .int 0, .int 0, .int 0, .int 0, .int 0, .int 0, .int 0, .int 0]))] ++ ([(q6, .inr (1, [.int 0, .int 0, .int 0, .int 0, .int 0, .int 0, .int 0, .int 0, .int 0]))] ++ ([(q4, .inr (1, [.int 0, .int 0, .int 0, .int 0, .int 0, .int 0, .int 0, .int 0, .int 0]))] ++ ([(q2, .inr (3, [.int 0, .int 0, .int 0, .int 0, .int 0]))] ++ ([(q1, .inl (cK, 5, .inr (.inr (.inr (.inr (va_up (va_up (va_up (fun _ => none) 0 (some q4)) 1 (some q6)) 2 (some q8)))))))] ++ ([(q, .inr (2, [.ref q1, .ref q2, .int 0, .int 0, .int 1, .int 0, .int 0, .int 0, .int 0, .int 0, .int 0, .int 0]))] ++ R)))))) := hD
  refine lv_iinc (v := 3) (lv' := [(1, .int 3), (0, .ref q)]) hx hb dX2_init_97 hl (k := 0) rfl (by decide) (by decide) rfl (fun ls hl => ?_)
  refine lv_goto (tgt := 75) hx hb dX2_init_100 (by decide) ?_
  refine lv_iload_n hx hb dX2_init_75 rfl (lv_at hl 0 rfl) ?_
  refine lv_aload_n hx hb dX2_init_76 rfl (lv_at hl 1 rfl) ?_
  refine va_get (D := D) (ci := 2) (v := .ref q1) (C := RX2) (T := TX2) (N := 12) hx hb hts iX2 hown hK hP 5 rfl rfl 0 (by decide) k11 (fun _ h9 => h9) rfl dX2_init_77 ?_
  refine va_alen (v := 5) hx hb hK hP 4 2 rfl rfl rfl dX2_init_80 ?_
  refine lv_icmp_ge (tgt := 103) hx hb dX2_init_81 (by decide) (fun c9 => absurd c9 (by decide)) (fun _ => ?_)
  refine lv_aload_n hx hb dX2_init_84 rfl (lv_at hl 1 rfl) ?_
  refine va_get (D := D) (ci := 2) (v := .ref q1) (C := RX2) (T := TX2) (N := 12) hx hb hts iX2 hown hK hP 5 rfl rfl 0 (by decide) k11 (fun _ h9 => h9) rfl dX2_init_85 ?_
  refine lv_iload_n hx hb dX2_init_88 rfl (lv_at hl 0 rfl) ?_
  refine va_new (ci := 1) (fs := [.int 0, .int 0, .int 0, .int 0, .int 0, .int 0, .int 0, .int 0, .int 0]) (C := RX1) (T := TX1) (N := 9) hx hb hts iX1 tyX1 tyX1_ok hown l9 nX1 tX1 hK hP hD hS hA rfl (fun j hj => by rcases (show j = 0 ∨ j = 1 ∨ j = 2 ∨ j = 3 ∨ j = 4 ∨ j = 5 ∨ j = 6 ∨ j = 7 ∨ j = 8 by omega) with rfl | rfl | rfl | rfl | rfl | rfl | rfl | rfl | rfl <;> rfl) (by decide) (by decide) dX2_init_89 (fun q10 H hP hD hS => ?_)
  have hP := mn_frontP hP
  have hD := mn_frontD hD
  have hP : va_P D vwCl ([(q10, .inr (1, [.int 0, .int 0, .int 0, .int 0, .int 0, .int 0, .int 0, .int 0, .int 0]))] ++ ([(q8, .inr (1, [.int 0, .int 0, .int 0, .int 0, .int 0, .int 0, .int 0, .int 0, .int 0]))] ++ ([(q6, .inr (1, [.int 0, .int 0, .int 0, .int 0, .int 0, .int 0, .int 0, .int 0, .int 0]))] ++ ([(q4, .inr (1, [.int 0, .int 0, .int 0, .int 0, .int 0, .int 0, .int 0, .int 0, .int 0]))] ++ ([(q2, .inr (3, [.int 0, .int 0, .int 0, .int 0, .int 0]))] ++ ([(q1, .inl (cK, 5, .inr (.inr (.inr (.inr (va_up (va_up (va_up (fun _ => none) 0 (some q4)) 1 (some q6)) 2 (some q8)))))))] ++ ([(q, .inr (2, [.ref q1, .ref q2, .int 0, .int 0, .int 1, .int 0, .int 0, .int 0, .int 0, .int 0, .int 0, .int 0]))] ++ R))))))) H := hP
  have hD : va_D A ([(q10, .inr (1, [.int 0, .int 0, .int 0, .int 0, .int 0, .int 0, .int 0, .int 0, .int 0]))] ++ ([(q8, .inr (1, [.int 0, .int 0, .int 0, .int 0, .int 0, .int 0, .int 0, .int 0, .int 0]))] ++ ([(q6, .inr (1, [.int 0, .int 0, .int 0, .int 0, .int 0, .int 0, .int 0, .int 0, .int 0]))] ++ ([(q4, .inr (1, [.int 0, .int 0, .int 0, .int 0, .int 0, .int 0, .int 0, .int 0, .int 0]))] ++ ([(q2, .inr (3, [.int 0, .int 0, .int 0, .int 0, .int 0]))] ++ ([(q1, .inl (cK, 5, .inr (.inr (.inr (.inr (va_up (va_up (va_up (fun _ => none) 0 (some q4)) 1 (some q6)) 2 (some q8)))))))] ++ ([(q, .inr (2, [.ref q1, .ref q2, .int 0, .int 0, .int 1, .int 0, .int 0, .int 0, .int 0, .int 0, .int 0, .int 0]))] ++ R))))))) := hD
  refine W.widen (k := 6) (n := 46) (by decide) (by decide) ?_
  refine lv_dup hx hb dX2_init_92 rfl ?_
  refine mn_callN (As := []) (rest := [.ref q10, .int 3, .ref q1]) ⟨hx, hb, hml, hown, hts⟩ (mtX1_init l D cI cB cK cS q10 ([(q8, .inr (1, [.int 0, .int 0, .int 0, .int 0, .int 0, .int 0, .int 0, .int 0, .int 0]))] ++ ([(q6, .inr (1, [.int 0, .int 0, .int 0, .int 0, .int 0, .int 0, .int 0, .int 0, .int 0]))] ++ ([(q4, .inr (1, [.int 0, .int 0, .int 0, .int 0, .int 0, .int 0, .int 0, .int 0, .int 0]))] ++ ([(q2, .inr (3, [.int 0, .int 0, .int 0, .int 0, .int 0]))] ++ ([(q1, .inl (cK, 5, .inr (.inr (.inr (.inr (va_up (va_up (va_up (fun _ => none) 0 (some q4)) 1 (some q6)) 2 (some q8)))))))] ++ ([(q, .inr (2, [.ref q1, .ref q2, .int 0, .int 0, .int 1, .int 0, .int 0, .int 0, .int 0, .int 0, .int 0, .int 0]))] ++ R))))))) ⟨va_cnB 0 hts gX2_init_X1_init_n55 rfl rfl rfl (hF.2 5 (by decide)) (hts (.initialized RX1) (by decide +kernel)) (by decide +kernel) ⟨Nat.le_of_ble_eq_true rfl, Nat.le_of_ble_eq_true rfl⟩, rfl, hts (.instanceMethod yX1_init) (by decide +kernel)⟩ pFn_ok hF hK hP hD hS hA rfl hl.1 rfl (Nat.le_of_ble_eq_true rfl) dX2_init_93 ⟨Nat.le_of_ble_eq_true rfl, Nat.le_of_ble_eq_true rfl⟩ (fun w9 H locs hp11 hP hD hS => ?_)
  obtain rfl := hp11
  have hP : va_P D vwCl ([(q10, .inr (1, [.int 0, .int 0, .int 0, .int 0, .int 0, .int 0, .int 0, .int 0, .int 0]))] ++ ([(q8, .inr (1, [.int 0, .int 0, .int 0, .int 0, .int 0, .int 0, .int 0, .int 0, .int 0]))] ++ ([(q6, .inr (1, [.int 0, .int 0, .int 0, .int 0, .int 0, .int 0, .int 0, .int 0, .int 0]))] ++ ([(q4, .inr (1, [.int 0, .int 0, .int 0, .int 0, .int 0, .int 0, .int 0, .int 0, .int 0]))] ++ ([(q2, .inr (3, [.int 0, .int 0, .int 0, .int 0, .int 0]))] ++ ([(q1, .inl (cK, 5, .inr (.inr (.inr (.inr (va_up (va_up (va_up (fun _ => none) 0 (some q4)) 1 (some q6)) 2 (some q8)))))))] ++ ([(q, .inr (2, [.ref q1, .ref q2, .int 0, .int 0, .int 1, .int 0, .int 0, .int 0, .int 0, .int 0, .int 0, .int 0]))] ++ R))))))) H := hP
  have hD : va_D A ([(q10, .inr (1, [.int 0, .int 0, .int 0, .int 0, .int 0, .int 0, .int 0, .int 0, .int 0]))] ++ ([(q8, .inr (1, [.int 0, .int 0, .int 0, .int 0, .int 0, .int 0, .int 0, .int 0, .int 0]))] ++ ([(q6, .inr (1, [.int 0, .int 0, .int 0, .int 0, .int 0, .int 0, .int 0, .int 0, .int 0]))] ++ ([(q4, .inr (1, [.int 0, .int 0, .int 0, .int 0, .int 0, .int 0, .int 0, .int 0, .int 0]))] ++ ([(q2, .inr (3, [.int 0, .int 0, .int 0, .int 0, .int 0]))] ++ ([(q1, .inl (cK, 5, .inr (.inr (.inr (.inr (va_up (va_up (va_up (fun _ => none) 0 (some q4)) 1 (some q6)) 2 (some q8)))))))] ++ ([(q, .inr (2, [.ref q1, .ref q2, .int 0, .int 0, .int 1, .int 0, .int 0, .int 0, .int 0, .int 0, .int 0, .int 0]))] ++ R))))))) := hD
  refine W.widen (k := 6) (n := 46) (by decide) (by decide) ?_
  refine W.eq (g2 := F0 m 96 ls [.ref q10, .int 3, .ref q1]) rfl ?_
  refine va_astq (i := 3) (n := 5) hx hb hK hP hD hS 5 2 0 1 rfl rfl rfl rfl (vp_in_iff.mpr (by decide)) dX2_init_96 (fun H locs hP hD hS => ?_)
  have hP : va_P D vwCl ([(q10, .inr (1, [.int 0, .int 0, .int 0, .int 0, .int 0, .int 0, .int 0, .int 0, .int 0]))] ++ ([(q8, .inr (1, [.int 0, .int 0, .int 0, .int 0, .int 0, .int 0, .int 0, .int 0, .int 0]))] ++ ([(q6, .inr (1, [.int 0, .int 0, .int 0, .int 0, .int 0, .int 0, .int 0, .int 0, .int 0]))] ++ ([(q4, .inr (1, [.int 0, .int 0, .int 0, .int 0, .int 0, .int 0, .int 0, .int 0, .int 0]))] ++ ([(q2, .inr (3, [.int 0, .int 0, .int 0, .int 0, .int 0]))] ++ ([(q1, .inl (cK, 5, .inr (.inr (.inr (.inr (va_up (va_up (va_up (va_up (fun _ => none) 0 (some q4)) 1 (some q6)) 2 (some q8)) 3 (some q10)))))))] ++ ([(q, .inr (2, [.ref q1, .ref q2, .int 0, .int 0, .int 1, .int 0, .int 0, .int 0, .int 0, .int 0, .int 0, .int 0]))] ++ R))))))) H := hP
  have hD : va_D A ([(q10, .inr (1, [.int 0, .int 0, .int 0, .int 0, .int 0, .int 0, .int 0, .int 0, .int 0]))] ++ ([(q8, .inr (1, [.int 0, .int 0, .int 0, .int 0, .int 0, .int 0, .int 0, .int 0, .int 0]))] ++ ([(q6, .inr (1, [.int 0, .int 0, .int 0, .int 0, .int 0, .int 0, .int 0, .int 0, .int 0]))] ++ ([(q4, .inr (1, [.int 0, .int 0, .int 0, .int 0, .int 0, .int 0, .int 0, .int 0, .int 0]))] ++ ([(q2, .inr (3, [.int 0, .int 0, .int 0, .int 0, .int 0]))] ++ ([(q1, .inl (cK, 5, .inr (.inr (.inr (.inr (va_up (va_up (va_up (va_up (fun _ => none) 0 (some q4)) 1 (some q6)) 2 (some q8)) 3 (some q10)))))))] ++ ([(q, .inr (2, [.ref q1, .ref q2, .int 0, .int 0, .int 1, .int 0, .int 0, .int 0, .int 0, .int 0, .int 0, .int 0]))] ++ R))))))) := hD
  refine lv_iinc (v := 4) (lv' := [(1, .int 4), (0, .ref q)]) hx hb dX2_init_97 hl (k := 0) rfl (by decide) (by decide) rfl (fun ls hl => ?_)
  refine lv_goto (tgt := 75) hx hb dX2_init_100 (by decide) ?_
  refine lv_iload_n hx hb dX2_init_75 rfl (lv_at hl 0 rfl) ?_
  refine lv_aload_n hx hb dX2_init_76 rfl (lv_at hl 1 rfl) ?_
  refine va_get (D := D) (ci := 2) (v := .ref q1) (C := RX2) (T := TX2) (N := 12) hx hb hts iX2 hown hK hP 6 rfl rfl 0 (by decide) k11 (fun _ h9 => h9) rfl dX2_init_77 ?_
  refine va_alen (v := 5) hx hb hK hP 5 2 rfl rfl rfl dX2_init_80 ?_
  refine lv_icmp_ge (tgt := 103) hx hb dX2_init_81 (by decide) (fun c9 => absurd c9 (by decide)) (fun _ => ?_)
  refine lv_aload_n hx hb dX2_init_84 rfl (lv_at hl 1 rfl) ?_
  refine va_get (D := D) (ci := 2) (v := .ref q1) (C := RX2) (T := TX2) (N := 12) hx hb hts iX2 hown hK hP 6 rfl rfl 0 (by decide) k11 (fun _ h9 => h9) rfl dX2_init_85 ?_
  refine lv_iload_n hx hb dX2_init_88 rfl (lv_at hl 0 rfl) ?_
  refine va_new (ci := 1) (fs := [.int 0, .int 0, .int 0, .int 0, .int 0, .int 0, .int 0, .int 0, .int 0]) (C := RX1) (T := TX1) (N := 9) hx hb hts iX1 tyX1 tyX1_ok hown l9 nX1 tX1 hK hP hD hS hA rfl (fun j hj => by rcases (show j = 0 ∨ j = 1 ∨ j = 2 ∨ j = 3 ∨ j = 4 ∨ j = 5 ∨ j = 6 ∨ j = 7 ∨ j = 8 by omega) with rfl | rfl | rfl | rfl | rfl | rfl | rfl | rfl | rfl <;> rfl) (by decide) (by decide) dX2_init_89 (fun q12 H hP hD hS => ?_)
  have hP := mn_frontP hP
  have hD := mn_frontD hD
  have hP : va_P D vwCl ([(q12, .inr (1, [.int 0, .int 0, .int 0, .int 0, .int 0, .int 0, .int 0, .int 0, .int 0]))] ++ ([(q10, .inr (1, [.int 0, .int 0, .int 0, .int 0, .int 0, .int 0, .int 0, .int 0, .int 0]))] ++ ([(q8, .inr (1, [.int 0, .int 0, .int 0, .int 0, .int 0, .int 0, .int 0, .int 0, .int 0]))] ++ ([(q6, .inr (1, [.int 0, .int 0, .int 0, .int 0, .int 0, .int 0, .int 0, .int 0, .int 0]))] ++ ([(q4, .inr (1, [.int 0, .int 0, .int 0, .int 0, .int 0, .int 0, .int 0, .int 0, .int 0]))] ++ ([(q2, .inr (3, [.int 0, .int 0, .int 0, .int 0, .int 0]))] ++ ([(q1, .inl (cK, 5, .inr (.inr (.inr (.inr (va_up (va_up (va_up (va_up (fun _ => none) 0 (some q4)) 1 (some q6)) 2 (some q8)) 3 (some q10)))))))] ++ ([(q, .inr (2, [.ref q1, .ref q2, .int 0, .int 0, .int 1, .int 0, .int 0, .int 0, .int 0, .int 0, .int 0, .int 0]))] ++ R)))))))) H := hP
  have hD : va_D A ([(q12, .inr (1, [.int 0, .int 0, .int 0, .int 0, .int 0, .int 0, .int 0, .int 0, .int 0]))] ++ ([(q10, .inr (1, [.int 0, .int 0, .int 0, .int 0, .int 0, .int 0, .int 0, .int 0, .int 0]))] ++ ([(q8, .inr (1, [.int 0, .int 0, .int 0, .int 0, .int 0, .int 0, .int 0, .int 0, .int 0]))] ++ ([(q6, .inr (1, [.int 0, .int 0, .int 0, .int 0, .int 0, .int 0, .int 0, .int 0, .int 0]))] ++ ([(q4, .inr (1, [.int 0, .int 0, .int 0, .int 0, .int 0, .int 0, .int 0, .int 0, .int 0]))] ++ ([(q2, .inr (3, [.int 0, .int 0, .int 0, .int 0, .int 0]))] ++ ([(q1, .inl (cK, 5, .inr (.inr (.inr (.inr (va_up (va_up (va_up (va_up (fun _ => none) 0 (some q4)) 1 (some q6)) 2 (some q8)) 3 (some q10)))))))] ++ ([(q, .inr (2, [.ref q1, .ref q2, .int 0, .int 0, .int 1, .int 0, .int 0, .int 0, .int 0, .int 0, .int 0, .int 0]))] ++ R)))))))) := hD
  refine W.widen (k := 7) (n := 55) (by decide) (by decide) ?_
  refine lv_dup hx hb dX2_init_92 rfl ?_
  refine mn_callN (As := []) (rest := [.ref q12, .int 4, .ref q1]) ⟨hx, hb, hml, hown, hts⟩ (mtX1_init l D cI cB cK cS q12 ([(q10, .inr (1, [.int 0, .int 0, .int 0, .int 0, .int 0, .int 0, .int 0, .int 0, .int 0]))] ++ ([(q8, .inr (1, [.int 0, .int 0, .int 0, .int 0, .int 0, .int 0, .int 0, .int 0, .int 0]))] ++ ([(q6, .inr (1, [.int 0, .int 0, .int 0, .int 0, .int 0, .int 0, .int 0, .int 0, .int 0]))] ++ ([(q4, .inr (1, [.int 0, .int 0, .int 0, .int 0, .int 0, .int 0, .int 0, .int 0, .int 0]))] ++ ([(q2, .inr (3, [.int 0, .int 0, .int 0, .int 0, .int 0]))] ++ ([(q1, .inl (cK, 5, .inr (.inr (.inr (.inr (va_up (va_up (va_up (va_up (fun _ => none) 0 (some q4)) 1 (some q6)) 2 (some q8)) 3 (some q10)))))))] ++ ([(q, .inr (2, [.ref q1, .ref q2, .int 0, .int 0, .int 1, .int 0, .int 0, .int 0, .int 0, .int 0, .int 0, .int 0]))] ++ R)))))))) ⟨va_cnB 0 hts gX2_init_X1_init_n55 rfl rfl rfl (hF.2 5 (by decide)) (hts (.initialized RX1) (by decide +kernel)) (by decide +kernel) ⟨Nat.le_of_ble_eq_true rfl, Nat.le_of_ble_eq_true rfl⟩, rfl, hts (.instanceMethod yX1_init) (by decide +kernel)⟩ pFn_ok hF hK hP hD hS hA rfl hl.1 rfl (Nat.le_of_ble_eq_true rfl) dX2_init_93 ⟨Nat.le_of_ble_eq_true rfl, Nat.le_of_ble_eq_true rfl⟩ (fun w9 H locs hp13 hP hD hS => ?_)
  obtain rfl := hp13
  have hP : va_P D vwCl ([(q12, .inr (1, [.int 0, .int 0, .int 0, .int 0, .int 0, .int 0, .int 0, .int 0, .int 0]))] ++ ([(q10, .inr (1, [.int 0, .int 0, .int 0, .int 0, .int 0, .int 0, .int 0, .int 0, .int 0]))] ++ ([(q8, .inr (1, [.int 0, .int 0, .int 0, .int 0, .int 0, .int 0, .int 0, .int 0, .int 0]))] ++ ([(q6, .inr (1, [.int 0, .int 0, .int 0, .int 0, .int 0, .int 0, .int 0, .int 0, .int 0]))] ++ ([(q4, .inr (1, [.int 0, .int 0, .int 0, .int 0, .int 0, .int 0, .int 0, .int 0, .int 0]))] ++ ([(q2, .inr (3, [.int 0, .int 0, .int 0, .int 0, .int 0]))] ++ ([(q1, .inl (cK, 5, .inr (.inr (.inr (.inr (va_up (va_up (va_up (va_up (fun _ => none) 0 (some q4)) 1 (some q6)) 2 (some q8)) 3 (some q10)))))))] ++ ([(q, .inr (2, [.ref q1, .ref q2, .int 0, .int 0, .int 1, .int 0, .int 0, .int 0, .int 0, .int 0, .int 0, .int 0]))] ++ R)))))))) H := hP
  have hD : va_D A ([(q12, .inr (1, [.int 0, .int 0, .int 0, .int 0, .int 0, .int 0, .int 0, .int 0, .int 0]))] ++ ([(q10, .inr (1, [.int 0, .int 0, .int 0, .int 0, .int 0, .int 0, .int 0, .int 0, .int 0]))] ++ ([(q8, .inr (1, [.int 0, .int 0, .int 0, .int 0, .int 0, .int 0, .int 0, .int 0, .int 0]))] ++ ([(q6, .inr (1, [.int 0, .int 0, .int 0, .int 0, .int 0, .int 0, .int 0, .int 0, .int 0]))] ++ ([(q4, .inr (1, [.int 0, .int 0, .int 0, .int 0, .int 0, .int 0, .int 0, .int 0, .int 0]))] ++ ([(q2, .inr (3, [.int 0, .int 0, .int 0, .int 0, .int 0]))] ++ ([(q1, .inl (cK, 5, .inr (.inr (.inr (.inr (va_up (va_up (va_up (va_up (fun _ => none) 0 (some q4)) 1 (some q6)) 2 (some q8)) 3 (some q10)))))))] ++ ([(q, .inr (2, [.ref q1, .ref q2, .int 0, .int 0, .int 1, .int 0, .int 0, .int 0, .int 0, .int 0, .int 0, .int 0]))] ++ R)))))))) := hD
  refine W.widen (k := 7) (n := 55) (by decide) (by decide) ?_
  refine W.eq (g2 := F0 m 96 ls [.ref q12, .int 4, .ref q1]) rfl ?_
  refine va_astq (i := 4) (n := 5) hx hb hK hP hD hS 6 2 0 1 rfl rfl rfl rfl (vp_in_iff.mpr (by decide)) dX2_init_96 (fun H locs hP hD hS => ?_)
  have hP : va_P D vwCl ([(q12, .inr (1, [.int 0, .int 0, .int 0, .int 0, .int 0, .int 0, .int 0, .int 0, .int 0]))] ++ ([(q10, .inr (1, [.int 0, .int 0, .int 0, .int 0, .int 0, .int 0, .int 0, .int 0, .int 0]))] ++ ([(q8, .inr (1, [.int 0, .int 0, .int 0, .int 0, .int 0, .int 0, .int 0, .int 0, .int 0]))] ++ ([(q6, .inr (1, [.int 0, .int 0, .int 0, .int 0, .int 0, .int 0, .int 0, .int 0, .int 0]))] ++ ([(q4, .inr (1, [.int 0, .int 0, .int 0, .int 0, .int 0, .int 0, .int 0, .int 0, .int 0]))] ++ ([(q2, .inr (3, [.int 0, .int 0, .int 0, .int 0, .int 0]))] ++ ([(q1, .inl (cK, 5, .inr (.inr (.inr (.inr (va_up (va_up (va_up (va_up (va_up (fun _ => none) 0 (some q4)) 1 (some q6)) 2 (some q8)) 3 (some q10)) 4 (some q12)))))))] ++ ([(q, .inr (2, [.ref q1, .ref q2, .int 0, .int 0, .int 1, .int 0, .int 0, .int 0, .int 0, .int 0, .int 0, .int 0]))] ++ R)))))))) H := hP
  have hD : va_D A ([(q12, .inr (1, [.int 0, .int 0, .int 0, .int 0, .int 0, .int 0, .int 0, .int 0, .int 0]))] ++ ([(q10, .inr (1, [.int 0, .int 0, .int 0, .int 0, .int 0, .int 0, .int 0, .int 0, .int 0]))] ++ ([(q8, .inr (1, [.int 0, .int 0, .int 0, .int 0, .int 0, .int 0, .int 0, .int 0, .int 0]))] ++ ([(q6, .inr (1, [.int 0, .int 0, .int 0, .int 0, .int 0, .int 0, .int 0, .int 0, .int 0]))] ++ ([(q4, .inr (1, [.int 0, .int 0, .int 0, .int 0, .int 0, .int 0, .int 0, .int 0, .int 0]))] ++ ([(q2, .inr (3, [.int 0, .int 0, .int 0, .int 0, .int 0]))] ++ ([(q1, .inl (cK, 5, .inr (.inr (.inr (.inr (va_up (va_up (va_up (va_up (va_up (fun _ => none) 0 (some q4)) 1 (some q6)) 2 (some q8)) 3 (some q10)) 4 (some q12)))))))] ++ ([(q, .inr (2, [.ref q1, .ref q2, .int 0, .int 0, .int 1, .int 0, .int 0, .int 0, .int 0, .int 0, .int 0, .int 0]))] ++ R)))))))) := hD
  refine lv_iinc (v := 5) (lv' := [(1, .int 5), (0, .ref q)]) hx hb dX2_init_97 hl (k := 0) rfl (by decide) (by decide) rfl (fun ls hl => ?_)
  refine lv_goto (tgt := 75) hx hb dX2_init_100 (by decide) ?_
  refine lv_iload_n hx hb dX2_init_75 rfl (lv_at hl 0 rfl) ?_
  refine lv_aload_n hx hb dX2_init_76 rfl (lv_at hl 1 rfl) ?_
  refine va_get (D := D) (ci := 2) (v := .ref q1) (C := RX2) (T := TX2) (N := 12) hx hb hts iX2 hown hK hP 7 rfl rfl 0 (by decide) k11 (fun _ h9 => h9) rfl dX2_init_77 ?_
  refine va_alen (v := 5) hx hb hK hP 6 2 rfl rfl rfl dX2_init_80 ?_
  refine lv_icmp_ge (tgt := 103) hx hb dX2_init_81 (by decide) (fun _ => ?_) (fun c9 => absurd (by decide) c9)
  obtain ⟨Z9, eZ9⟩ : ∃ z : Nat → Nat, z = adr [q, q1, q2, q4, q6, q8, q10, q12] := ⟨_, rfl⟩
  have hpm : List.Perm ([(q12, .inr (1, [.int 0, .int 0, .int 0, .int 0, .int 0, .int 0, .int 0, .int 0, .int 0]))] ++ ([(q10, .inr (1, [.int 0, .int 0, .int 0, .int 0, .int 0, .int 0, .int 0, .int 0, .int 0]))] ++ ([(q8, .inr (1, [.int 0, .int 0, .int 0, .int 0, .int 0, .int 0, .int 0, .int 0, .int 0]))] ++ ([(q6, .inr (1, [.int 0, .int 0, .int 0, .int 0, .int 0, .int 0, .int 0, .int 0, .int 0]))] ++ ([(q4, .inr (1, [.int 0, .int 0, .int 0, .int 0, .int 0, .int 0, .int 0, .int 0, .int 0]))] ++ ([(q2, .inr (3, [.int 0, .int 0, .int 0, .int 0, .int 0]))] ++ ([(q1, .inl (cK, 5, .inr (.inr (.inr (.inr (va_up (va_up (va_up (va_up (va_up (fun _ => none) 0 (some q4)) 1 (some q6)) 2 (some q8)) 3 (some q10)) 4 (some q12)))))))] ++ ([(q, .inr (2, [.ref q1, .ref q2, .int 0, .int 0, .int 1, .int 0, .int 0, .int 0, .int 0, .int 0, .int 0, .int 0]))] ++ R)))))))) ([(q1, .inl (cK, 5, .inr (.inr (.inr (.inr (va_up (va_up (va_up (va_up (va_up (fun _ => none) 0 (some q4)) 1 (some q6)) 2 (some q8)) 3 (some q10)) 4 (some q12)))))))] ++ ([(q12, .inr (1, [.int 0, .int 0, .int 0, .int 0, .int 0, .int 0, .int 0, .int 0, .int 0]))] ++ ([(q10, .inr (1, [.int 0, .int 0, .int 0, .int 0, .int 0, .int 0, .int 0, .int 0, .int 0]))] ++ ([(q8, .inr (1, [.int 0, .int 0, .int 0, .int 0, .int 0, .int 0, .int 0, .int 0, .int 0]))] ++ ([(q6, .inr (1, [.int 0, .int 0, .int 0, .int 0, .int 0, .int 0, .int 0, .int 0, .int 0]))] ++ ([(q4, .inr (1, [.int 0, .int 0, .int 0, .int 0, .int 0, .int 0, .int 0, .int 0, .int 0]))] ++ ([(q2, .inr (3, [.int 0, .int 0, .int 0, .int 0, .int 0]))] ++ ([(q, .inr (2, [.ref q1, .ref q2, .int 0, .int 0, .int 1, .int 0, .int 0, .int 0, .int 0, .int 0, .int 0, .int 0]))] ++ R)))))))) := (((((((((List.Perm.append_left _ ((List.Perm.append_left _ ((List.Perm.append_left _ ((List.Perm.append_left _ ((List.Perm.append_left _ ((List.Perm.append_left _ gp_swap).trans gp_swap)).trans gp_swap)).trans gp_swap)).trans gp_swap)).trans gp_swap)).trans gp_swap).trans ((List.Perm.append_left _ ((List.Perm.append_left _ ((List.Perm.append_left _ ((List.Perm.append_left _ ((List.Perm.append_left _ gp_swap).trans gp_swap)).trans gp_swap)).trans gp_swap)).trans gp_swap)).trans gp_swap)).trans ((List.Perm.append_left _ ((List.Perm.append_left _ ((List.Perm.append_left _ ((List.Perm.append_left _ ((List.Perm.append_left _ gp_swap).trans gp_swap)).trans gp_swap)).trans gp_swap)).trans gp_swap)).trans gp_swap)).trans ((List.Perm.append_left _ ((List.Perm.append_left _ ((List.Perm.append_left _ ((List.Perm.append_left _ ((List.Perm.append_left _ gp_swap).trans gp_swap)).trans gp_swap)).trans gp_swap)).trans gp_swap)).trans gp_swap)).trans ((List.Perm.append_left _ ((List.Perm.append_left _ ((List.Perm.append_left _ ((List.Perm.append_left _ ((List.Perm.append_left _ gp_swap).trans gp_swap)).trans gp_swap)).trans gp_swap)).trans gp_swap)).trans gp_swap)).trans ((List.Perm.append_left _ ((List.Perm.append_left _ ((List.Perm.append_left _ ((List.Perm.append_left _ ((List.Perm.append_left _ gp_swap).trans gp_swap)).trans gp_swap)).trans gp_swap)).trans gp_swap)).trans gp_swap)).trans ((List.Perm.append_left _ ((List.Perm.append_left _ ((List.Perm.append_left _ ((List.Perm.append_left _ ((List.Perm.append_left _ gp_swap).trans gp_swap)).trans gp_swap)).trans gp_swap)).trans gp_swap)).trans gp_swap)).trans ((List.Perm.append_left _ ((List.Perm.append_left _ ((List.Perm.append_left _ ((List.Perm.append_left _ ((List.Perm.append_left _ ((List.Perm.append_left _ gp_swap).trans gp_swap)).trans gp_swap)).trans gp_swap)).trans gp_swap)).trans gp_swap)).trans gp_swap))
  have hP := gp_P hpm hP
  have hD := gp_D hpm hD
  have hP := vq_P (g := fun j => some (adr [q, q1, q2, q4, q6, q8, q10, q12] (3 + j))) (fun j hj => by rcases (show j = 0 ∨ j = 1 ∨ j = 2 ∨ j = 3 ∨ j = 4 by omega) with rfl | rfl | rfl | rfl | rfl <;> rfl) hP
  have hD := vq_D (g := fun j => some (adr [q, q1, q2, q4, q6, q8, q10, q12] (3 + j))) hD
  have hP : va_P D vwCl ([(q1, .inl (cK, 5, .inr (.inr (.inr (.inr (fun j => some (adr [q, q1, q2, q4, q6, q8, q10, q12] (3 + j))))))))] ++ ([(q12, .inr (1, [.int 0, .int 0, .int 0, .int 0, .int 0, .int 0, .int 0, .int 0, .int 0]))] ++ ([(q10, .inr (1, [.int 0, .int 0, .int 0, .int 0, .int 0, .int 0, .int 0, .int 0, .int 0]))] ++ ([(q8, .inr (1, [.int 0, .int 0, .int 0, .int 0, .int 0, .int 0, .int 0, .int 0, .int 0]))] ++ ([(q6, .inr (1, [.int 0, .int 0, .int 0, .int 0, .int 0, .int 0, .int 0, .int 0, .int 0]))] ++ ([(q4, .inr (1, [.int 0, .int 0, .int 0, .int 0, .int 0, .int 0, .int 0, .int 0, .int 0]))] ++ ([(q2, .inr (3, [.int 0, .int 0, .int 0, .int 0, .int 0]))] ++ ([(q, .inr (2, [.ref q1, .ref q2, .int 0, .int 0, .int 1, .int 0, .int 0, .int 0, .int 0, .int 0, .int 0, .int 0]))] ++ R)))))))) H := hP
  have hD : va_D A ([(q1, .inl (cK, 5, .inr (.inr (.inr (.inr (fun j => some (adr [q, q1, q2, q4, q6, q8, q10, q12] (3 + j))))))))] ++ ([(q12, .inr (1, [.int 0, .int 0, .int 0, .int 0, .int 0, .int 0, .int 0, .int 0, .int 0]))] ++ ([(q10, .inr (1, [.int 0, .int 0, .int 0, .int 0, .int 0, .int 0, .int 0, .int 0, .int 0]))] ++ ([(q8, .inr (1, [.int 0, .int 0, .int 0, .int 0, .int 0, .int 0, .int 0, .int 0, .int 0]))] ++ ([(q6, .inr (1, [.int 0, .int 0, .int 0, .int 0, .int 0, .int 0, .int 0, .int 0, .int 0]))] ++ ([(q4, .inr (1, [.int 0, .int 0, .int 0, .int 0, .int 0, .int 0, .int 0, .int 0, .int 0]))] ++ ([(q2, .inr (3, [.int 0, .int 0, .int 0, .int 0, .int 0]))] ++ ([(q, .inr (2, [.ref q1, .ref q2, .int 0, .int 0, .int 1, .int 0, .int 0, .int 0, .int 0, .int 0, .int 0, .int 0]))] ++ R)))))))) := hD
  have hpm : List.Perm ([(q1, .inl (cK, 5, .inr (.inr (.inr (.inr (fun j => some (adr [q, q1, q2, q4, q6, q8, q10, q12] (3 + j))))))))] ++ ([(q12, .inr (1, [.int 0, .int 0, .int 0, .int 0, .int 0, .int 0, .int 0, .int 0, .int 0]))] ++ ([(q10, .inr (1, [.int 0, .int 0, .int 0, .int 0, .int 0, .int 0, .int 0, .int 0, .int 0]))] ++ ([(q8, .inr (1, [.int 0, .int 0, .int 0, .int 0, .int 0, .int 0, .int 0, .int 0, .int 0]))] ++ ([(q6, .inr (1, [.int 0, .int 0, .int 0, .int 0, .int 0, .int 0, .int 0, .int 0, .int 0]))] ++ ([(q4, .inr (1, [.int 0, .int 0, .int 0, .int 0, .int 0, .int 0, .int 0, .int 0, .int 0]))] ++ ([(q2, .inr (3, [.int 0, .int 0, .int 0, .int 0, .int 0]))] ++ ([(q, .inr (2, [.ref q1, .ref q2, .int 0, .int 0, .int 1, .int 0, .int 0, .int 0, .int 0, .int 0, .int 0, .int 0]))] ++ R)))))))) ([(q4, .inr (1, [.int 0, .int 0, .int 0, .int 0, .int 0, .int 0, .int 0, .int 0, .int 0]))] ++ ([(q6, .inr (1, [.int 0, .int 0, .int 0, .int 0, .int 0, .int 0, .int 0, .int 0, .int 0]))] ++ ([(q8, .inr (1, [.int 0, .int 0, .int 0, .int 0, .int 0, .int 0, .int 0, .int 0, .int 0]))] ++ ([(q10, .inr (1, [.int 0, .int 0, .int 0, .int 0, .int 0, .int 0, .int 0, .int 0, .int 0]))] ++ ([(q12, .inr (1, [.int 0, .int 0, .int 0, .int 0, .int 0, .int 0, .int 0, .int 0, .int 0]))] ++ ([(q, .inr (2, [.ref q1, .ref q2, .int 0, .int 0, .int 1, .int 0, .int 0, .int 0, .int 0, .int 0, .int 0, .int 0]))] ++ ([(q1, .inl (cK, 5, .inr (.inr (.inr (.inr (fun j => some (adr [q, q1, q2, q4, q6, q8, q10, q12] (3 + j))))))))] ++ ([(q2, .inr (3, [.int 0, .int 0, .int 0, .int 0, .int 0]))] ++ R)))))))) := (((((((((List.Perm.append_left _ ((List.Perm.append_left _ ((List.Perm.append_left _ ((List.Perm.append_left _ ((List.Perm.append_left _ gp_swap).trans gp_swap)).trans gp_swap)).trans gp_swap)).trans gp_swap)).trans gp_swap).trans gp_swap).trans ((List.Perm.append_left _ ((List.Perm.append_left _ ((List.Perm.append_left _ ((List.Perm.append_left _ ((List.Perm.append_left _ ((List.Perm.append_left _ gp_swap).trans gp_swap)).trans gp_swap)).trans gp_swap)).trans gp_swap)).trans gp_swap)).trans gp_swap)).trans ((List.Perm.append_left _ ((List.Perm.append_left _ gp_swap).trans gp_swap)).trans gp_swap)).trans ((List.Perm.append_left _ ((List.Perm.append_left _ ((List.Perm.append_left _ gp_swap).trans gp_swap)).trans gp_swap)).trans gp_swap)).trans ((List.Perm.append_left _ ((List.Perm.append_left _ ((List.Perm.append_left _ ((List.Perm.append_left _ gp_swap).trans gp_swap)).trans gp_swap)).trans gp_swap)).trans gp_swap)).trans ((List.Perm.append_left _ ((List.Perm.append_left _ ((List.Perm.append_left _ ((List.Perm.append_left _ ((List.Perm.append_left _ gp_swap).trans gp_swap)).trans gp_swap)).trans gp_swap)).trans gp_swap)).trans gp_swap)).trans ((List.Perm.append_left _ ((List.Perm.append_left _ ((List.Perm.append_left _ ((List.Perm.append_left _ ((List.Perm.append_left _ ((List.Perm.append_left _ gp_swap).trans gp_swap)).trans gp_swap)).trans gp_swap)).trans gp_swap)).trans gp_swap)).trans gp_swap))
  have hP := gp_P hpm hP
  have hD := gp_D hpm hD
  refine W.widen (k := 7) (n := 55) (by decide) (by decide) ?_
  rw [hQm]
  exact mn_ret hx hb hr hlocks hK hS ⟨adr [q, q1, q2, q4, q6, q8, q10, q12], rfl, rfl⟩ hP hD dX2_init_103
set_option maxHeartbeats 8000000 in
set_option maxRecDepth 100000 in
theorem mtX8_init (l : Launch) (D : va_G) (cI cB cK cS : ClassId) (q : Nat) (R : va_W) : MN l yX8_init wsX8_init (rmC 3 9 128) D (tyX cI cB cK cS) pFn ([(q, .inr (7, [.null, .null, .int 0, .int 0]))] ++ R) [.ref q] 9 128 (fun w => ∃ Z V : Nat → Nat, V 0 = q ∧ w = landW Z cK land_f0 (fun _ _ => 0) (fun _ => 0) ++ (trW V Z cI (-1000000) (-1000000) (fun _ => 0) ++ R)) := by
  refine mn_intro (cc := cX8_init) (maxL := 1) (ret := none) (by decide) rfl rfl (Nat.le_of_ble_eq_true rfl) ?_
  intro p e s m below meth c A ls H locs Qm hQm hx hb hr hml hts hown hlocks hin hA hS hP hK hD hF hl
  have hown : s.vm.findClass RX8 = some m.cls := hown
  have hl : lv_has ls 1 [(0, .ref q)] := hl
  have l9 := hts (.classLink RX8 9 RX2) (by decide +kernel)
  have nX2 := hts (.instantiable RX2 12) (by decide +kernel)
  have tX2 := hts (.initialized RX2) (by decide +kernel)
  have k12 := hts (.fieldLink RX8 12 "PigRounds$Trials" "trial" "LPigRounds$Land;") (by decide +kernel)
  have k18 := hts (.fieldLink RX8 18 "PigRounds$Trials" "met" "[I") (by decide +kernel)
  have k22 := hts (.constant RX8 22 (-1000000)) (by decide +kernel)
  have k23 := hts (.fieldLink RX8 23 "PigRounds$Trials" "roundLength" "I") (by decide +kernel)
  have k27 := hts (.fieldLink RX8 27 "PigRounds$Trials" "roundEnd" "I") (by decide +kernel)
  have iX2 : ∀ w ∈ u_ws RX2 TX2 12, w ∈ wsX8_init := by decide +kernel
  have iX8 : ∀ w ∈ u_ws RX8 TX8 4, w ∈ wsX8_init := by decide +kernel
  refine lv_aload_n hx hb dX8_init_0 rfl (lv_at hl 0 rfl) ?_
  refine W.objInit hx hb hown (hts (.methodLink RX8 3 objectInit) (by decide +kernel)) (hts (.instanceMethod objectInit) (by decide +kernel)) (hts _ (List.mem_of_getElem? (i := 3) rfl)) rfl (by rw [hml]; exact hl.1) rfl dX8_init_1 (Nat.le_of_ble_eq_true rfl) (Nat.le_of_ble_eq_true rfl) ?_
  refine W.eq (g2 := F0 m 4 ls []) rfl ?_
  refine lv_aload_n hx hb dX8_init_4 rfl (lv_at hl 0 rfl) ?_
  refine va_new (ci := 2) (fs := [.null, .null, .int 0, .int 0, .int 0, .int 0, .int 0, .int 0, .int 0, .int 0, .int 0, .int 0]) (C := RX2) (T := TX2) (N := 12) hx hb hts iX2 tyX2 tyX2_ok hown l9 nX2 tX2 hK hP hD hS hA rfl (fun j hj => by rcases (show j = 0 ∨ j = 1 ∨ j = 2 ∨ j = 3 ∨ j = 4 ∨ j = 5 ∨ j = 6 ∨ j = 7 ∨ j = 8 ∨ j = 9 ∨ j = 10 ∨ j = 11 by omega) with rfl | rfl | rfl | rfl | rfl | rfl | rfl | rfl | rfl | rfl | rfl | rfl <;> rfl) (by decide) (by decide) dX8_init_5 (fun q1 H hP hD hS => ?_)
  have hP := mn_frontP hP
  have hD := mn_frontD hD
  have hP : va_P D vwCl ([(q1, .inr (2, [.null, .null, .int 0, .int 0, .int 0, .int 0, .int 0, .int 0, .int 0, .int 0, .int 0, .int 0]))] ++ ([(q, .inr (7, [.null, .null, .int 0, .int 0]))] ++ R)) H := hP
  have hD : va_D A ([(q1, .inr (2, [.null, .null, .int 0, .int 0, .int 0, .int 0, .int 0, .int 0, .int 0, .int 0, .int 0, .int 0]))] ++ ([(q, .inr (7, [.null, .null, .int 0, .int 0]))] ++ R)) := hD
  refine W.widen (k := 1) (n := 12) (by decide) (by decide) ?_
  refine lv_dup hx hb dX8_init_8 rfl ?_
  refine mn_call (As := []) (rest := [.ref q1, .ref q]) ⟨hx, hb, hml, hown, hts⟩ (mtX2_init l D cI cB cK cS q1 ([(q, .inr (7, [.null, .null, .int 0, .int 0]))] ++ R)) (cwI 0 hts gX8_init_X2_init rfl rfl rfl (hts (.initialized RX2) (by decide +kernel)) (hts (.methodLink RX8 11 yX2_init) (by decide +kernel)) (hts (.instanceMethod yX2_init) (by decide +kernel)) rfl (by decide +kernel) ⟨Nat.le_of_ble_eq_true rfl, Nat.le_of_ble_eq_true rfl⟩) pFn_ok hF hK hP hD hS hA rfl hl.1 rfl (Nat.le_of_ble_eq_true rfl) dX8_init_9 ⟨Nat.le_of_ble_eq_true rfl, Nat.le_of_ble_eq_true rfl⟩ (fun w9 H locs hp2 hP hD hS => ?_)
  obtain ⟨Z_3, rfl, rfl⟩ := hp2
  have hP : va_P D vwCl (landW Z_3 cK land_f0 (fun _ _ => 0) (fun _ => 0) ++ ([(q, .inr (7, [.null, .null, .int 0, .int 0]))] ++ R)) H := hP
  have hD : va_D A (landW Z_3 cK land_f0 (fun _ _ => 0) (fun _ => 0) ++ ([(q, .inr (7, [.null, .null, .int 0, .int 0]))] ++ R)) := hD
  refine W.widen (k := 8) (n := 67) (by decide) (by decide) ?_
  refine W.eq (g2 := F0 m 12 ls [.ref (Z_3 0), .ref q]) rfl ?_
  refine va_putF (D := D) (ci := 7) (v := .ref (Z_3 0)) (ty := tyX8 0) (C := RX8) (T := TX8) (N := 4) hx hb hts iX8 tyX8 tyX8_ok nmX8 hown hK hP hD hS 8 rfl rfl 0 (by decide) k12 (fun _ h9 => h9) rfl hin rfl (tyX8_ok 0 (by decide)) rfl rfl (Nat.le_of_ble_eq_true rfl) dX8_init_12 (fun H locs hP hD hS => ?_)
  have hP : va_P D vwCl (landW Z_3 cK land_f0 (fun _ _ => 0) (fun _ => 0) ++ ([(q, .inr (7, [.ref (Z_3 0), .null, .int 0, .int 0]))] ++ R)) H := hP
  have hD : va_D A (landW Z_3 cK land_f0 (fun _ _ => 0) (fun _ => 0) ++ ([(q, .inr (7, [.ref (Z_3 0), .null, .int 0, .int 0]))] ++ R)) := hD
  refine lv_aload_n hx hb dX8_init_15 rfl (lv_at hl 0 rfl) ?_
  refine lv_bipush (v := 61) hx hb dX8_init_16 (by decide) ?_
  refine mn_newi (N := 61) hx hb (hts (.arrayClass .int) (by decide +kernel)) hK hP hD hS hA (by decide) (by decide) (by decide) (by decide) (by decide) dX8_init_18 (fun q4 H hP hD hS => ?_)
  have hP : va_P D vwCl ([(q4, .inl (cI, 61, .inl (fun _ => 0)))] ++ (landW Z_3 cK land_f0 (fun _ _ => 0) (fun _ => 0) ++ ([(q, .inr (7, [.ref (Z_3 0), .null, .int 0, .int 0]))] ++ R))) H := hP
  have hD : va_D A ([(q4, .inl (cI, 61, .inl (fun _ => 0)))] ++ (landW Z_3 cK land_f0 (fun _ _ => 0) (fun _ => 0) ++ ([(q, .inr (7, [.ref (Z_3 0), .null, .int 0, .int 0]))] ++ R))) := hD
  refine W.widen (k := 9) (n := 128) (by decide) (by decide) ?_
  refine va_putF (D := D) (ci := 7) (v := .ref q4) (ty := tyX8 1) (C := RX8) (T := TX8) (N := 4) hx hb hts iX8 tyX8 tyX8_ok nmX8 hown hK hP hD hS 9 rfl rfl 1 (by decide) k18 (fun _ h9 => h9) rfl hin rfl (tyX8_ok 1 (by decide)) rfl rfl (Nat.le_of_ble_eq_true rfl) dX8_init_20 (fun H locs hP hD hS => ?_)
  have hP : va_P D vwCl ([(q4, .inl (cI, 61, .inl (fun _ => 0)))] ++ (landW Z_3 cK land_f0 (fun _ _ => 0) (fun _ => 0) ++ ([(q, .inr (7, [.ref (Z_3 0), .ref q4, .int 0, .int 0]))] ++ R))) H := hP
  have hD : va_D A ([(q4, .inl (cI, 61, .inl (fun _ => 0)))] ++ (landW Z_3 cK land_f0 (fun _ _ => 0) (fun _ => 0) ++ ([(q, .inr (7, [.ref (Z_3 0), .ref q4, .int 0, .int 0]))] ++ R))) := hD
  refine lv_aload_n hx hb dX8_init_23 rfl (lv_at hl 0 rfl) ?_
  refine lv_ldc (v := (-1000000)) hx hb hown k22 dX8_init_24 ?_
  refine va_put (D := D) (ci := 7) (v := .int (-1000000)) (ty := tyX8 2) (C := RX8) (T := TX8) (N := 4) hx hb hts iX8 tyX8 tyX8_ok nmX8 hown hK hP hD hS 9 rfl rfl 2 (by decide) k23 (fun _ h9 => h9) rfl (tyX8_ok 2 (by decide)) rfl rfl (Nat.le_of_ble_eq_true rfl) dX8_init_26 (fun H locs hP hD hS => ?_)
  have hP : va_P D vwCl ([(q4, .inl (cI, 61, .inl (fun _ => 0)))] ++ (landW Z_3 cK land_f0 (fun _ _ => 0) (fun _ => 0) ++ ([(q, .inr (7, [.ref (Z_3 0), .ref q4, .int (-1000000), .int 0]))] ++ R))) H := hP
  have hD : va_D A ([(q4, .inl (cI, 61, .inl (fun _ => 0)))] ++ (landW Z_3 cK land_f0 (fun _ _ => 0) (fun _ => 0) ++ ([(q, .inr (7, [.ref (Z_3 0), .ref q4, .int (-1000000), .int 0]))] ++ R))) := hD
  refine lv_aload_n hx hb dX8_init_29 rfl (lv_at hl 0 rfl) ?_
  refine lv_ldc (v := (-1000000)) hx hb hown k22 dX8_init_30 ?_
  refine va_put (D := D) (ci := 7) (v := .int (-1000000)) (ty := tyX8 3) (C := RX8) (T := TX8) (N := 4) hx hb hts iX8 tyX8 tyX8_ok nmX8 hown hK hP hD hS 9 rfl rfl 3 (by decide) k27 (fun _ h9 => h9) rfl (tyX8_ok 3 (by decide)) rfl rfl (Nat.le_of_ble_eq_true rfl) dX8_init_32 (fun H locs hP hD hS => ?_)
  have hP : va_P D vwCl ([(q4, .inl (cI, 61, .inl (fun _ => 0)))] ++ (landW Z_3 cK land_f0 (fun _ _ => 0) (fun _ => 0) ++ ([(q, .inr (7, [.ref (Z_3 0), .ref q4, .int (-1000000), .int (-1000000)]))] ++ R))) H := hP
  have hD : va_D A ([(q4, .inl (cI, 61, .inl (fun _ => 0)))] ++ (landW Z_3 cK land_f0 (fun _ _ => 0) (fun _ => 0) ++ ([(q, .inr (7, [.ref (Z_3 0), .ref q4, .int (-1000000), .int (-1000000)]))] ++ R))) := hD
  have hpm : List.Perm ([(q4, .inl (cI, 61, .inl (fun _ => 0)))] ++ (landW Z_3 cK land_f0 (fun _ _ => 0) (fun _ => 0) ++ ([(q, .inr (7, [.ref (Z_3 0), .ref q4, .int (-1000000), .int (-1000000)]))] ++ R))) (landW Z_3 cK land_f0 (fun _ _ => 0) (fun _ => 0) ++ ([(q, .inr (7, [.ref (Z_3 0), .ref q4, .int (-1000000), .int (-1000000)]))] ++ ([(q4, .inl (cI, 61, .inl (fun _ => 0)))] ++ R))) := (((List.Perm.append_left _ gp_swap).trans gp_swap).trans ((List.Perm.append_left _ gp_swap).trans gp_swap))
  have hP := gp_P hpm hP
  have hD := gp_D hpm hD
  refine W.widen (k := 9) (n := 128) (by decide) (by decide) ?_
  rw [hQm]
  exact mn_ret hx hb hr hlocks hK hS ⟨Z_3, adr [q, q4], rfl, rfl⟩ hP hD dX8_init_35

section StrRows
variable {p : Program} {l : Launch} {e : Env} {R : Room} {s : State} {m : MethodId} {args : Array Value} {below : List Frame} {meth : Method} {c : Code} {H : Heap} {locs : List Loc} {cells slots : Nat} {Q : State → Prop}
variable {D : va_G} {ty : List (ClassId × FieldType)} {F : (Nat → Prop) → State → Prop} {A : Nat → Prop} {cc : ByteArray} {pc : Nat} {ls : Array Slot} {rest : List Value}
theorem mx_nret {S : Type} {u0 u : S} {rv : S → Option Value} {w1 : S → va_W} {v : Int32} {t9 : FieldType} (hx : p.tables.exec = Jvm.exec) (hb : c.code = cc) (hr : meth.sig.returnType = some t9) (hlocks : meth.locks = false) (hK : va_K D vwCl ty s) (hS : va_S A s.heap H locs) (hu : u0 = u) (hP : va_P D vwCl (w1 u) H) (hD : va_D A (w1 u)) (hv : rv u = some (.int v)) (hn : narrow t9 (.int v) = .int v) (hdg : decode cc pc = .ok (.ireturn, 1)) :
    W p l e R s m args below meth c H locs 0 0 (MQ below (pw_Q (rv u0) (fun t => pw_B D ty A (w1 u0) t) A) args s 0 0 A) (F0 m pc ls [.int v]) := by
  subst hu
  exact W.zret hx hb hr hn (fun t ht hW => ⟨by rw [hv], ⟨by rw [ht]; exact hP, va_K.moved hW.alike hK, hD⟩, hS.F ht⟩) hS.2.2 hdg
theorem mx_callK {y : MethodName} {bytes : ByteArray} {maxL nL n index : Nat} {ret : Option FieldType} {wy Ts : List Cond} {rm : Room} {own C : String} {b : Addr} {As st0 : List Value} {w0 : va_W} {S : Type} {u0 : S} {rv : S → Option Value} {w1 : S → va_W}
    (X : CallFix p m c cc nL s args Ts own) (hM : MX l y wy rm D ty F w0 (.ref b :: As) u0 rv w1) (cw : CallW R s args own C index y bytes maxL ret wy rm 0 0 n) (hFk : pF_ok F) (hF : F A s) (hK : va_K D vwCl ty s) (hP : va_P D vwCl w0 H) (hD : va_D A w0) (hS : va_S A s.heap H locs) (hA : ∀ q : Nat, s.heap.size ≤ q → A q)
    (hrc : ∃ cell : Cell, H[b]? = some cell ∧ cell.vm.isStatics = false ∧ s.vm.findClass C = some cell.cls) (hn : As.length = n) (hsize : ls.size = nL) (hstack : st0 = As.reverse ++ .ref b :: rest) (hW : (rest.map fun v => v.category).sum ≤ 8) (hdg : decode cc pc = .ok (.invokevirtual index, 3)) (hf : cells ≤ R.cells ∧ slots ≤ R.slots)
    (kk : ∀ (u : S) (H1 : Heap) (locs1 : List Loc), u = u0 → va_P D vwCl (w1 u) H1 → va_D A (w1 u) → va_S A s.heap H1 locs1 → W p l e R s m args below meth c H1 locs1 cells slots Q (F0 m (pc + 3) ls ((rv u).toList ++ rest))) : W p l e R s m args below meth c H locs cells slots Q (F0 m pc ls st0) := by
  refine pw_call (va_runV (As := As) (rest := rest) X (hM H.size) cw ⟨pw_blind hFk, hrc, pw_pre hFk hF hK hP hD hS hA⟩ rfl hn hsize hstack (lv_room hW) hdg hf) hS (fun q _ h => pw_in hD hS hA q h) (pw_in hD hS hA) ?_
  intro t H1 locs1 ht hvm hB hS1
  obtain ⟨hP1, -, hD1⟩ := hB
  rw [ht] at hP1
  exact kk u0 H1 locs1 rfl hP1 (hD1.weaken (fun _ q _ h => pw_in hD hS hA q.1 h)) hS1
end StrRows
theorem wd_all : ∀ i, i < 9 → wdN.getD i 0 ≤ 8 := by decide
theorem wd_le {i : Nat} {u : Int32} (hi : i < 9) (e : u = nI (wdN.getD i 0)) : u.toInt = (wdN.getD i 0 : Int) ∧ u.toInt ≤ 8 := by
  have h := wd_all i hi
  rw [e, nI_toInt (by omega)]
  omega
theorem tb_all : ∀ k, k < 9 → tbN k ≤ 7 := by decide
theorem tb_le {k : Nat} (hk : k < 9) : (nI (tbN k)).toInt = (tbN k : Int) ∧ (tbN k : Int) ≤ 7 := by
  have h := tb_all k hk
  rw [nI_toInt (by omega)]
  omega
def sJ0_length_8abf5 (i : Nat) : Int32 := nI (wdN.getD i 0)
def sJ0_charAt_5068e (i : Nat) (k : Int32) : Int32 := (wdB.getD i []).getD k.toNatClampNeg 0 &&& 255
set_option maxHeartbeats 4000000 in
set_option maxRecDepth 100000 in
theorem mtJ0_coder_7d493 (l : Launch) (D : va_G) (cI cB cK cS : ClassId) (ws : va_W) (t ks kb : Nat → Nat) (i : Nat) (hi : i < 9) : MX l yJ0_coder_7d493 wsJ0_coder_7d493 (rmX 1) D (tyX cI cB cK cS) (pFs t ks kb) ws [.ref (ks i)] () (fun _ => some (.int 0)) (fun _ => ws) := by
  refine mx_intro (cc := cJ0_coder_7d493) (maxL := 1) (ret := (some .byte)) (by decide) rfl (Nat.le_of_ble_eq_true rfl) ?_
  intro p e s m below meth c A ls H locs Qm hQm hx hb hr hml hts hown hlocks hA hS hP hK hD hF hl
  have hown : s.vm.findClass RJ0 = some m.cls := hown
  have hl : lv_has ls 1 [(0, .ref (ks i))] := hl
  have k38 := hts (.fieldLink RJ0 38 "java/lang/String" "COMPACT_STRINGS" "Z") (by decide +kernel)
  have k15 := hts (.fieldLink RJ0 15 "java/lang/String" "coder" "B") (by decide +kernel)
  refine va_gets (v := .int 1) hx hb hF.2.1 hS hown k38 (fun _ h9 => h9) dJ0_coder_7d493_0 ?_
  refine lv_if_eq (tgt := 13) hx hb dJ0_coder_7d493_3 (by decide) (fun c_1 => ?_) (fun c_1 => ?_)
  · exact absurd c_1 (by decide)
  · refine lv_aload_n hx hb dJ0_coder_7d493_6 rfl (lv_at hl 0 rfl) ?_
    refine vk_getf (v := .int 0) hx hb (hF.2.2.2.1.1 i hi).2.1 hS hown k15 (fun _ h9 => h9) dJ0_coder_7d493_7 ?_
    refine lv_goto (tgt := 14) hx hb dJ0_coder_7d493_10 (by decide) ?_
    rw [hQm]
    exact mx_nret (u0 := ()) (rv := (fun _ => some (.int 0))) (w1 := (fun _ => ws)) (u := ()) hx hb hr hlocks hK hS rfl hP hD rfl rfl dJ0_coder_7d493_14
set_option maxHeartbeats 4000000 in
set_option maxRecDepth 100000 in
theorem mtJ0_isLatin1_aae02 (l : Launch) (D : va_G) (cI cB cK cS : ClassId) (ws : va_W) (t ks kb : Nat → Nat) (i : Nat) (hi : i < 9) : MX l yJ0_isLatin1_aae02 wsJ0_isLatin1_aae02 (rmX 1) D (tyX cI cB cK cS) (pFs t ks kb) ws [.ref (ks i)] () (fun _ => some (.int 1)) (fun _ => ws) := by
  refine mx_intro (cc := cJ0_isLatin1_aae02) (maxL := 1) (ret := (some .boolean)) (by decide) rfl (Nat.le_of_ble_eq_true rfl) ?_
  intro p e s m below meth c A ls H locs Qm hQm hx hb hr hml hts hown hlocks hA hS hP hK hD hF hl
  have hown : s.vm.findClass RJ0 = some m.cls := hown
  have hl : lv_has ls 1 [(0, .ref (ks i))] := hl
  have k38 := hts (.fieldLink RJ0 38 "java/lang/String" "COMPACT_STRINGS" "Z") (by decide +kernel)
  have k15 := hts (.fieldLink RJ0 15 "java/lang/String" "coder" "B") (by decide +kernel)
  refine va_gets (v := .int 1) hx hb hF.2.1 hS hown k38 (fun _ h9 => h9) dJ0_isLatin1_aae02_0 ?_
  refine lv_if_eq (tgt := 17) hx hb dJ0_isLatin1_aae02_3 (by decide) (fun c_1 => ?_) (fun c_1 => ?_)
  · exact absurd c_1 (by decide)
  · refine lv_aload_n hx hb dJ0_isLatin1_aae02_6 rfl (lv_at hl 0 rfl) ?_
    refine vk_getf (v := .int 0) hx hb (hF.2.2.2.1.1 i hi).2.1 hS hown k15 (fun _ h9 => h9) dJ0_isLatin1_aae02_7 ?_
    refine lv_if_ne (tgt := 17) hx hb dJ0_isLatin1_aae02_10 (by decide) (fun c_2 => ?_) (fun c_2 => ?_)
    · exact absurd c_2 (by decide)
    · refine lv_iconst (v := 1) hx hb dJ0_isLatin1_aae02_13 (by decide) ?_
      refine lv_goto (tgt := 18) hx hb dJ0_isLatin1_aae02_14 (by decide) ?_
      rw [hQm]
      exact mx_nret (u0 := ()) (rv := (fun _ => some (.int 1))) (w1 := (fun _ => ws)) (u := ()) hx hb hr hlocks hK hS rfl hP hD rfl rfl dJ0_isLatin1_aae02_18
set_option maxHeartbeats 4000000 in
set_option maxRecDepth 100000 in
theorem mtJ0_length_8abf5 (l : Launch) (D : va_G) (cI cB cK cS : ClassId) (ws : va_W) (t ks kb : Nat → Nat) (i : Nat) (hi : i < 9) : MX l yJ0_length_8abf5 wsJ0_length_8abf5 (rmX 2) D (tyX cI cB cK cS) (pFs t ks kb) ws [.ref (ks i)] (sJ0_length_8abf5 i) (fun u => some (.int u)) (fun _ => ws) := by
  refine mx_intro (cc := cJ0_length_8abf5) (maxL := 1) (ret := (some .int)) (by decide) rfl (Nat.le_of_ble_eq_true rfl) ?_
  intro p e s m below meth c A ls H locs Qm hQm hx hb hr hml hts hown hlocks hA hS hP hK hD hF hl
  have hown : s.vm.findClass RJ0 = some m.cls := hown
  have hl : lv_has ls 1 [(0, .ref (ks i))] := hl
  have k9 := hts (.fieldLink RJ0 9 "java/lang/String" "value" "[B") (by decide +kernel)
  refine lv_aload_n hx hb dJ0_length_8abf5_0 rfl (lv_at hl 0 rfl) ?_
  refine vk_getf (v := .ref (kb i)) hx hb (hF.2.2.2.1.1 i hi).2.2.1 hS hown k9 (fun _ h9 => h9) dJ0_length_8abf5_1 ?_
  refine va_tlen (v := nI (wdN.getD i 0)) hx hb (hF.2.2.2.1.1 i hi).2.2.2 hS rfl dJ0_length_8abf5_4 ?_
  refine lv_aload_n hx hb dJ0_length_8abf5_5 rfl (lv_at hl 0 rfl) ?_
  refine mx_callK (As := []) (rest := [.int (nI (wdN.getD i 0))]) ⟨hx, hb, hml, hown, hts⟩ (mtJ0_coder_7d493 l D cI cB cK cS ws t ks kb i hi) (cwV 0 hts gJ0_length_8abf5_J0_coder_7d493 rfl rfl rfl (by decide +kernel) ⟨Nat.le_of_ble_eq_true rfl, Nat.le_of_ble_eq_true rfl⟩) pFs_ok hF hK hP hD hS hA (vk_recv hF.2.2.2.1 hi hS) rfl hl.1 rfl (Nat.le_of_ble_eq_true rfl) dJ0_length_8abf5_6 ⟨Nat.le_refl _, Nat.le_refl _⟩ (fun u_1 H locs eu_1 hP hD hS => ?_)
  refine W.eq (g2 := F0 m 9 ls [.int 0, .int (nI (wdN.getD i 0))]) rfl ?_
  refine lv_ishr hx hb dJ0_length_8abf5_9 ?_
  refine W.eq (g2 := F0 m 10 ls [.int (nI (wdN.getD i 0))]) (by rw [sc_shr0 (by have := wd_all i hi; omega)]) ?_
  rw [hQm]
  exact mx_iret (u0 := sJ0_length_8abf5 i) (rv := (fun u => some (.int u))) (w1 := (fun _ => ws)) (u := nI (wdN.getD i 0)) hx hb hr hlocks hK hS rfl hP hD rfl dJ0_length_8abf5_10
set_option maxHeartbeats 4000000 in
set_option maxRecDepth 100000 in
theorem mtJ3_checkIndex_8e157 (l : Launch) (D : va_G) (cI cB cK cS : ClassId) (ws : va_W) (t ks kb : Nat → Nat) (k n9 : Int32) (vv : Value) (hv : vv = .null ∨ ∃ a, vv = .ref a) (h0 : ¬ k < 0) (h1 : k < n9) : MX l yJ3_checkIndex_8e157 wsJ3_checkIndex_8e157 (rmX 1) D (tyX cI cB cK cS) (pFs t ks kb) ws [.int k, .int n9, vv] k (fun u => some (.int u)) (fun _ => ws) := by
  have hlen : (lg_sl [.int k, .int n9, vv]).length ≤ 3 := by
    rcases hv with rfl | ⟨a, rfl⟩ <;> exact Nat.le_of_ble_eq_true rfl
  refine mx_intro (cc := cJ3_checkIndex_8e157) (maxL := 3) (ret := (some .int)) (by decide) rfl hlen ?_
  intro p e s m below meth c A ls H locs Qm hQm hx hb hr hml hts hown hlocks hA hS hP hK hD hF hl
  have hown : s.vm.findClass RJ3 = some m.cls := hown
  have hl : lv_has ls 3 [(0, .int k), (1, .int n9), (2, vv)] := hl
  refine lv_iload_n hx hb dJ3_checkIndex_8e157_0 rfl (lv_at hl 0 rfl) ?_
  refine lv_if_lt (tgt := 9) hx hb dJ3_checkIndex_8e157_1 (by decide) (fun c_1 => ?_) (fun c_1 => ?_)
  · exact absurd c_1 h0
  · refine lv_iload_n hx hb dJ3_checkIndex_8e157_4 rfl (lv_at hl 0 rfl) ?_
    refine lv_iload_n hx hb dJ3_checkIndex_8e157_5 rfl (lv_at hl 1 rfl) ?_
    refine lv_icmp_lt (tgt := 16) hx hb dJ3_checkIndex_8e157_6 (by decide) (fun c_2 => ?_) (fun c_2 => ?_)
    · refine lv_iload_n hx hb dJ3_checkIndex_8e157_16 rfl (lv_at hl 0 rfl) ?_
      rw [hQm]
      exact mx_iret (u0 := k) (rv := (fun u => some (.int u))) (w1 := (fun _ => ws)) (u := k) hx hb hr hlocks hK hS rfl hP hD rfl dJ3_checkIndex_8e157_17
    · exact absurd h1 c_2
set_option maxHeartbeats 4000000 in
set_option maxRecDepth 100000 in
theorem mtJ0_checkIndex_df160 (l : Launch) (D : va_G) (cI cB cK cS : ClassId) (ws : va_W) (t ks kb : Nat → Nat) (k n9 : Int32) (h0 : ¬ k < 0) (h1 : k < n9) : MX l yJ0_checkIndex_df160 wsJ0_checkIndex_df160 (rmX 2) D (tyX cI cB cK cS) (pFs t ks kb) ws [.int k, .int n9] () (fun _ => none) (fun _ => ws) := by
  refine mx_intro (cc := cJ0_checkIndex_df160) (maxL := 2) (ret := none) (by decide) rfl (Nat.le_of_ble_eq_true rfl) ?_
  intro p e s m below meth c A ls H locs Qm hQm hx hb hr hml hts hown hlocks hA hS hP hK hD hF hl
  have hown : s.vm.findClass RJ0 = some m.cls := hown
  have hl : lv_has ls 2 [(0, .int k), (1, .int n9)] := hl
  have k1053 := hts (.fieldLink RJ0 1053 "jdk/internal/util/Preconditions" "SIOOBE_FORMATTER" "Ljava/util/function/BiFunction;") (by decide +kernel)
  refine lv_iload_n hx hb dJ0_checkIndex_df160_0 rfl (lv_at hl 0 rfl) ?_
  refine lv_iload_n hx hb dJ0_checkIndex_df160_1 rfl (lv_at hl 1 rfl) ?_
  obtain ⟨vv, hv, hz⟩ : ∃ vv : Value, (vv = .null ∨ ∃ a, vv = .ref a) ∧ va_Z "jdk/internal/util/Preconditions" "SIOOBE_FORMATTER" "Ljava/util/function/BiFunction;" vv A s s.heap := by
    rcases hF.2.2.1 with h | ⟨t9, h⟩
    · exact ⟨_, Or.inl rfl, h⟩
    · exact ⟨_, Or.inr ⟨t9, rfl⟩, h⟩
  refine va_gets (v := vv) hx hb hz hS hown k1053 (fun _ h9 => h9) dJ0_checkIndex_df160_2 ?_
  refine mx_callS (As := [.int k, .int n9, vv]) (rest := []) ⟨hx, hb, hml, hown, hts⟩ (mtJ3_checkIndex_8e157 l D cI cB cK cS ws t ks kb k n9 vv hv h0 h1) (va_cwS 3 hts gJ0_checkIndex_df160_J3_checkIndex_8e157 rfl rfl rfl (by decide +kernel) ⟨Nat.le_of_ble_eq_true rfl, Nat.le_of_ble_eq_true rfl⟩) pFs_ok hF hK hP hD hS hA rfl hl.1 rfl (Nat.le_of_ble_eq_true rfl) dJ0_checkIndex_df160_5 ⟨Nat.le_refl _, Nat.le_refl _⟩ (fun u_1 H locs eu_1 hP hD hS => ?_)
  refine W.eq (g2 := F0 m 8 ls [.int u_1]) rfl ?_
  refine lv_pop hx hb dJ0_checkIndex_df160_8 rfl ?_
  rw [hQm]
  exact mx_vret (u0 := ()) (rv := (fun _ => none)) (w1 := (fun _ => ws)) (u := ()) hx hb hr hlocks hK hS rfl hP hD rfl dJ0_checkIndex_df160_9
set_option maxHeartbeats 4000000 in
set_option maxRecDepth 100000 in
theorem mtJ1_charAt_3b067 (l : Launch) (D : va_G) (cI cB cK cS : ClassId) (ws : va_W) (t ks kb : Nat → Nat) (i : Nat) (k : Int32) (hi : i < 9) (h0 : 0 ≤ k.toInt) (h1 : k.toInt < (wdN.getD i 0 : Int)) : MX l yJ1_charAt_3b067 wsJ1_charAt_3b067 (rmX 3) D (tyX cI cB cK cS) (pFs t ks kb) ws [.ref (kb i), .int k] (sJ0_charAt_5068e i k) (fun u => some (.int u)) (fun _ => ws) := by
  refine mx_intro (cc := cJ1_charAt_3b067) (maxL := 2) (ret := (some .char)) (by decide) rfl (Nat.le_of_ble_eq_true rfl) ?_
  intro p e s m below meth c A ls H locs Qm hQm hx hb hr hml hts hown hlocks hA hS hP hK hD hF hl
  have hown : s.vm.findClass RJ1 = some m.cls := hown
  have hl : lv_has ls 2 [(0, .ref (kb i)), (1, .int k)] := hl
  have hw := wd_le hi (rfl : nI (wdN.getD i 0) = _)
  refine lv_iload_n hx hb dJ1_charAt_3b067_0 rfl (lv_at hl 1 rfl) ?_
  refine lv_aload_n hx hb dJ1_charAt_3b067_1 rfl (lv_at hl 0 rfl) ?_
  refine va_tlen (v := nI (wdN.getD i 0)) hx hb (hF.2.2.2.1.1 i hi).2.2.2 hS rfl dJ1_charAt_3b067_2 ?_
  refine mx_callS (As := [.int k, .int (nI (wdN.getD i 0))]) (rest := []) ⟨hx, hb, hml, hown, hts⟩ (mtJ0_checkIndex_df160 l D cI cB cK cS ws t ks kb k (nI (wdN.getD i 0)) (n_neg h0) (Int32.lt_iff_toInt_lt.mpr (by omega))) (va_cwS 2 hts gJ1_charAt_3b067_J0_checkIndex_df160 rfl rfl rfl (by decide +kernel) ⟨Nat.le_of_ble_eq_true rfl, Nat.le_of_ble_eq_true rfl⟩) pFs_ok hF hK hP hD hS hA rfl hl.1 rfl (Nat.le_of_ble_eq_true rfl) dJ1_charAt_3b067_3 ⟨Nat.le_refl _, Nat.le_refl _⟩ (fun u_1 H locs eu_1 hP hD hS => ?_)
  refine W.eq (g2 := F0 m 6 ls []) rfl ?_
  refine lv_aload_n hx hb dJ1_charAt_3b067_6 rfl (lv_at hl 0 rfl) ?_
  refine lv_iload_n hx hb dJ1_charAt_3b067_7 rfl (lv_at hl 1 rfl) ?_
  refine va_tb (v := .int ((wdB.getD i []).getD k.toNatClampNeg 0)) hx hb (hF.2.2.2.1.1 i hi).2.2.2 hS (vp_in_iff.mpr ⟨h0, h1⟩) rfl dJ1_charAt_3b067_8 ?_
  refine lv_sipush (v := 255) hx hb dJ1_charAt_3b067_9 (by decide) ?_
  refine lv_iand hx hb dJ1_charAt_3b067_12 ?_
  refine lv_i2c (v := sJ0_charAt_5068e i k) hx hb dJ1_charAt_3b067_13 (sc_c2 _) ?_
  rw [hQm]
  exact mx_nret (u0 := sJ0_charAt_5068e i k) (rv := (fun u => some (.int u))) (w1 := (fun _ => ws)) (u := sJ0_charAt_5068e i k) hx hb hr hlocks hK hS rfl hP hD rfl (sc_nar _) dJ1_charAt_3b067_14
set_option maxHeartbeats 4000000 in
set_option maxRecDepth 100000 in
theorem mtJ0_charAt_5068e (l : Launch) (D : va_G) (cI cB cK cS : ClassId) (ws : va_W) (t ks kb : Nat → Nat) (i : Nat) (k : Int32) (hi : i < 9) (h0 : 0 ≤ k.toInt) (h1 : k.toInt < (wdN.getD i 0 : Int)) : MX l yJ0_charAt_5068e wsJ0_charAt_5068e (rmX 4) D (tyX cI cB cK cS) (pFs t ks kb) ws [.ref (ks i), .int k] (sJ0_charAt_5068e i k) (fun u => some (.int u)) (fun _ => ws) := by
  refine mx_intro (cc := cJ0_charAt_5068e) (maxL := 2) (ret := (some .char)) (by decide) rfl (Nat.le_of_ble_eq_true rfl) ?_
  intro p e s m below meth c A ls H locs Qm hQm hx hb hr hml hts hown hlocks hA hS hP hK hD hF hl
  have hown : s.vm.findClass RJ0 = some m.cls := hown
  have hl : lv_has ls 2 [(0, .ref (ks i)), (1, .int k)] := hl
  have k9 := hts (.fieldLink RJ0 9 "java/lang/String" "value" "[B") (by decide +kernel)
  refine lv_aload_n hx hb dJ0_charAt_5068e_0 rfl (lv_at hl 0 rfl) ?_
  refine mx_callK (As := []) (rest := []) ⟨hx, hb, hml, hown, hts⟩ (mtJ0_isLatin1_aae02 l D cI cB cK cS ws t ks kb i hi) (cwV 0 hts gJ0_charAt_5068e_J0_isLatin1_aae02 rfl rfl rfl (by decide +kernel) ⟨Nat.le_of_ble_eq_true rfl, Nat.le_of_ble_eq_true rfl⟩) pFs_ok hF hK hP hD hS hA (vk_recv hF.2.2.2.1 hi hS) rfl hl.1 rfl (Nat.le_of_ble_eq_true rfl) dJ0_charAt_5068e_1 ⟨Nat.le_refl _, Nat.le_refl _⟩ (fun u_1 H locs eu_1 hP hD hS => ?_)
  refine W.eq (g2 := F0 m 4 ls [.int 1]) rfl ?_
  refine lv_if_eq (tgt := 16) hx hb dJ0_charAt_5068e_4 (by decide) (fun c_1 => ?_) (fun c_1 => ?_)
  · exact absurd c_1 (by decide)
  · refine lv_aload_n hx hb dJ0_charAt_5068e_7 rfl (lv_at hl 0 rfl) ?_
    refine vk_getf (v := .ref (kb i)) hx hb (hF.2.2.2.1.1 i hi).2.2.1 hS hown k9 (fun _ h9 => h9) dJ0_charAt_5068e_8 ?_
    refine lv_iload_n hx hb dJ0_charAt_5068e_11 rfl (lv_at hl 1 rfl) ?_
    refine mx_callS (As := [.ref (kb i), .int k]) (rest := []) ⟨hx, hb, hml, hown, hts⟩ (mtJ1_charAt_3b067 l D cI cB cK cS ws t ks kb i k hi h0 h1) (va_cwS 2 hts gJ0_charAt_5068e_J1_charAt_3b067 rfl rfl rfl (by decide +kernel) ⟨Nat.le_of_ble_eq_true rfl, Nat.le_of_ble_eq_true rfl⟩) pFs_ok hF hK hP hD hS hA rfl hl.1 rfl (Nat.le_of_ble_eq_true rfl) dJ0_charAt_5068e_12 ⟨Nat.le_refl _, Nat.le_refl _⟩ (fun u_2 H locs eu_2 hP hD hS => ?_)
    refine W.eq (g2 := F0 m 15 ls [.int u_2]) rfl ?_
    rw [hQm]
    exact mx_nret (u0 := sJ0_charAt_5068e i k) (rv := (fun u => some (.int u))) (w1 := (fun _ => ws)) (u := u_2) hx hb hr hlocks hK hS eu_2.symm hP hD rfl (by rw [eu_2]; exact sc_nar _) dJ0_charAt_5068e_15
theorem sX4_takeNumber_ok {lo hi len x d_fault : Int32} {by9 : Nat → Int32} {u : Int32 × (Int32) × (Int32) × (Int32) × (Int32) × (Int32)} (h : pl_ok x) (hl : len.toInt ≤ 400) (e : u = sX4_takeNumber lo hi len by9 x d_fault) : pl_ok u.2.1 := by
  rw [e]
  unfold sX4_takeNumber
  refine lt_P (fun r : (Int32) × (Int32) × (Int32) × (Int32) => pl_ok r.1) (fun r : Int32 × (Int32) × (Int32) × (Int32) × (Int32) × (Int32) => pl_ok r.2.1) (sX4_scan_ok h hl rfl) (fun u1 h1 => ?_)
  repeat' first | exact h1 | refine if_P (fun r : Int32 × (Int32) × (Int32) × (Int32) × (Int32) × (Int32) => pl_ok r.2.1) (fun _ => ?_) (fun _ => ?_) | refine lt_P (fun _ => True) (fun r : Int32 × (Int32) × (Int32) × (Int32) × (Int32) × (Int32) => pl_ok r.2.1) trivial (fun _ _ => ?_)

theorem gp_swap {X Y R : va_W} : List.Perm (X ++ (Y ++ R)) (Y ++ (X ++ R)) := by
  have h : List.Perm ((X ++ Y) ++ R) ((Y ++ X) ++ R) := List.Perm.append_right R List.perm_append_comm
  rw [List.append_assoc, List.append_assoc] at h
  exact h
theorem gp_P {D : va_G} {ws w2 : va_W} {H : Heap} (hp : List.Perm ws w2) (h : va_P D vwCl ws H) : va_P D vwCl w2 H := by
  intro k q hk
  have hm : q ∈ ws := hp.mem_iff.mpr (List.mem_of_getElem? hk)
  obtain ⟨n, hn⟩ := List.getElem?_of_mem hm
  exact h n q hn
/-- the addresses are apart, one by one -/
def gp_dj : va_W → Prop
  | [] => True
  | x :: l => (∀ q ∈ l, q.1 ≠ x.1) ∧ gp_dj l
theorem gp_dj_of {A : Nat → Prop} : ∀ (ws : va_W), va_D A ws → gp_dj ws := by
  intro ws
  induction ws with
  | nil => intro _; trivial
  | cons x l ih =>
    intro h
    refine ⟨fun q hq he => ?_, ih ⟨fun i j p q hi hj he => ?_, fun k q hk => h.2 (k + 1) q (by rw [List.getElem?_cons_succ]; exact hk)⟩⟩
    · obtain ⟨n, hn⟩ := List.getElem?_of_mem hq
      have := h.1 (n + 1) 0 q x (by rw [List.getElem?_cons_succ]; exact hn) List.getElem?_cons_zero he
      omega
    · have := h.1 (i + 1) (j + 1) p q (by rw [List.getElem?_cons_succ]; exact hi) (by rw [List.getElem?_cons_succ]; exact hj) he
      omega
theorem gp_of_dj : ∀ (ws : va_W), gp_dj ws → ∀ (i j : Nat) (p q : Nat × va_E), ws[i]? = some p → ws[j]? = some q → p.1 = q.1 → i = j := by
  intro ws
  induction ws with
  | nil => intro _ i j p q hi; simp at hi
  | cons x l ih =>
    intro h i j p q hi hj he
    match i, j, hi, hj with
    | 0, 0, _, _ => rfl
    | 0, j + 1, hi, hj =>
      rw [List.getElem?_cons_zero] at hi
      rw [List.getElem?_cons_succ] at hj
      cases hi
      exact absurd he.symm (h.1 q (List.mem_of_getElem? hj))
    | i + 1, 0, hi, hj =>
      rw [List.getElem?_cons_zero] at hj
      rw [List.getElem?_cons_succ] at hi
      cases hj
      exact absurd he (h.1 p (List.mem_of_getElem? hi))
    | i + 1, j + 1, hi, hj =>
      rw [List.getElem?_cons_succ] at hi hj
      have := ih h.2 i j p q hi hj he
      omega
theorem gp_djp {ws w2 : va_W} (hp : List.Perm ws w2) : gp_dj ws → gp_dj w2 := by
  induction hp with
  | nil => exact fun h => h
  | cons x hp ih => exact fun h => ⟨fun q hq => h.1 q (hp.mem_iff.mpr hq), ih h.2⟩
  | swap x y l =>
    intro h
    refine ⟨fun q hq => ?_, fun q hq => h.1 q (List.mem_cons.mpr (Or.inr hq)), h.2.2⟩
    rcases List.mem_cons.mp hq with rfl | hq
    · exact fun z => h.1 x (List.mem_cons.mpr (Or.inl rfl)) z.symm
    · exact h.2.1 q hq
  | trans _ _ i1 i2 => exact fun h => i2 (i1 h)
theorem gp_D {A : Nat → Prop} {ws w2 : va_W} (hp : List.Perm ws w2) (h : va_D A ws) : va_D A w2 := by
  refine ⟨gp_of_dj w2 (gp_djp hp (gp_dj_of ws h)), fun k q hk => ?_⟩
  obtain ⟨n, hn⟩ := List.getElem?_of_mem (hp.mem_iff.mpr (List.mem_of_getElem? hk))
  exact h.2 n q hn
/-- the object itself: B 0; its sheets S, tape U, reader Q, trials V, asker K, land Z2, spare Z3 -/
def pigW (B S U Q V K Z2 Z3 : Nat → Nat) (g_landed g_fault g_find : Int32) : va_W := [(B 0, .inr (8, [.ref (S 0), .ref (U 0), .ref (Q 0), .ref (V 0), .ref (K 0), .ref (Z2 0), .ref (Z3 0), .int g_landed, .int g_fault, .int g_find]))]
def sX10_found (k : Int32) : Int32 × (Int32) := ((-1000010) - k, k)
set_option maxHeartbeats 4000000 in
set_option maxRecDepth 100000 in
theorem mtX10_found (l : Launch) (D : va_G) (cI cB cK cS : ClassId) (B S U Q V K Z2 Z3 : Nat → Nat) (R : va_W) (g_landed : Int32) (g_fault : Int32) (g_find : Int32) (k : Int32) : MX l yX10_found wsX10_found (rmX 1) D (tyX cI cB cK cS) pF0 (pigW B S U Q V K Z2 Z3 g_landed g_fault g_find ++ R) [.ref (B 0), .int k] (sX10_found k) (fun u => some (.int u.1)) (fun u => pigW B S U Q V K Z2 Z3 g_landed g_fault u.2 ++ R) := by
  refine mx_intro (cc := cX10_found) (maxL := 2) (ret := (some .int)) (by decide) rfl (Nat.le_of_ble_eq_true rfl) ?_
  intro p e s m below meth c A ls H locs Qm hQm hx hb hr hml hts hown hlocks hA hS hP hK hD hF hl
  have hown : s.vm.findClass RX10 = some m.cls := hown
  have hl : lv_has ls 2 [(0, .ref (B 0)), (1, .int k)] := hl
  have k63 := hts (.fieldLink RX10 63 "PigRounds" "latestFinding" "I") (by decide +kernel)
  have k268 := hts (.constant RX10 268 (-1000010)) (by decide +kernel)
  have iX10 : ∀ w ∈ u_ws RX10 TX10 10, w ∈ wsX10_found := by decide +kernel
  refine lv_aload_n hx hb dX10_found_0 rfl (lv_at hl 0 rfl) ?_
  refine lv_iload_n hx hb dX10_found_1 rfl (lv_at hl 1 rfl) ?_
  refine va_put (D := D) (ci := 8) (v := .int k) (ty := .int) (C := RX10) (T := TX10) (N := 10) hx hb hts iX10 tyX10 tyX10_ok nmX10 hown hK hP hD hS 0 rfl rfl 9 (by decide) k63 (fun _ h9 => h9) rfl (by decide +kernel) rfl rfl (Nat.le_of_ble_eq_true rfl) dX10_found_2 (fun H locs hP hD hS => ?_)
  have hP : va_P D vwCl (pigW B S U Q V K Z2 Z3 g_landed g_fault k ++ R) H := hP
  have hD : va_D A (pigW B S U Q V K Z2 Z3 g_landed g_fault k ++ R) := hD
  refine lv_ldcw (v := (-1000010)) hx hb hown k268 dX10_found_5 ?_
  refine lv_iload_n hx hb dX10_found_8 rfl (lv_at hl 1 rfl) ?_
  refine lv_isub hx hb dX10_found_9 ?_
  rw [hQm]
  exact mx_iret (u0 := sX10_found k) (rv := (fun u => some (.int u.1))) (w1 := (fun u => pigW B S U Q V K Z2 Z3 g_landed g_fault u.2 ++ R)) (u := ((-1000010) - k, k)) hx hb hr hlocks hK hS rfl hP hD rfl dX10_found_10

def sX10_foundNone (k : Int32) : Int32 × (Int32) := (k, 0)
set_option maxHeartbeats 4000000 in
set_option maxRecDepth 100000 in
theorem mtX10_foundNone (l : Launch) (D : va_G) (cI cB cK cS : ClassId) (B S U Q V K Z2 Z3 : Nat → Nat) (R : va_W) (g_landed : Int32) (g_fault : Int32) (g_find : Int32) (k : Int32) : MX l yX10_foundNone wsX10_foundNone (rmX 1) D (tyX cI cB cK cS) pF0 (pigW B S U Q V K Z2 Z3 g_landed g_fault g_find ++ R) [.ref (B 0), .int k] (sX10_foundNone k) (fun u => some (.int u.1)) (fun u => pigW B S U Q V K Z2 Z3 g_landed g_fault u.2 ++ R) := by
  refine mx_intro (cc := cX10_foundNone) (maxL := 2) (ret := (some .int)) (by decide) rfl (Nat.le_of_ble_eq_true rfl) ?_
  intro p e s m below meth c A ls H locs Qm hQm hx hb hr hml hts hown hlocks hA hS hP hK hD hF hl
  have hown : s.vm.findClass RX10 = some m.cls := hown
  have hl : lv_has ls 2 [(0, .ref (B 0)), (1, .int k)] := hl
  have k63 := hts (.fieldLink RX10 63 "PigRounds" "latestFinding" "I") (by decide +kernel)
  have iX10 : ∀ w ∈ u_ws RX10 TX10 10, w ∈ wsX10_foundNone := by decide +kernel
  refine lv_aload_n hx hb dX10_foundNone_0 rfl (lv_at hl 0 rfl) ?_
  refine lv_iconst (v := 0) hx hb dX10_foundNone_1 (by decide) ?_
  refine va_put (D := D) (ci := 8) (v := .int 0) (ty := .int) (C := RX10) (T := TX10) (N := 10) hx hb hts iX10 tyX10 tyX10_ok nmX10 hown hK hP hD hS 0 rfl rfl 9 (by decide) k63 (fun _ h9 => h9) rfl (by decide +kernel) rfl rfl (Nat.le_of_ble_eq_true rfl) dX10_foundNone_2 (fun H locs hP hD hS => ?_)
  have hP : va_P D vwCl (pigW B S U Q V K Z2 Z3 g_landed g_fault 0 ++ R) H := hP
  have hD : va_D A (pigW B S U Q V K Z2 Z3 g_landed g_fault 0 ++ R) := hD
  refine lv_iload_n hx hb dX10_foundNone_5 rfl (lv_at hl 1 rfl) ?_
  rw [hQm]
  exact mx_iret (u0 := sX10_foundNone k) (rv := (fun u => some (.int u.1))) (w1 := (fun u => pigW B S U Q V K Z2 Z3 g_landed g_fault u.2 ++ R)) (u := (k, 0)) hx hb hr hlocks hK hS rfl hP hD rfl dX10_foundNone_6

def sX10_status (g_find : Int32) : Int32 := (g_find)
set_option maxHeartbeats 4000000 in
set_option maxRecDepth 100000 in
theorem mtX10_status (l : Launch) (D : va_G) (cI cB cK cS : ClassId) (B S U Q V K Z2 Z3 : Nat → Nat) (R : va_W) (g_landed : Int32) (g_fault : Int32) (g_find : Int32) : MX l yX10_status wsX10_status (rmX 1) D (tyX cI cB cK cS) pF0 (pigW B S U Q V K Z2 Z3 g_landed g_fault g_find ++ R) [.ref (B 0)] (sX10_status g_find) (fun u => some (.int u)) (fun _ => pigW B S U Q V K Z2 Z3 g_landed g_fault g_find ++ R) := by
  refine mx_intro (cc := cX10_status) (maxL := 1) (ret := (some .int)) (by decide) rfl (Nat.le_of_ble_eq_true rfl) ?_
  intro p e s m below meth c A ls H locs Qm hQm hx hb hr hml hts hown hlocks hA hS hP hK hD hF hl
  have hown : s.vm.findClass RX10 = some m.cls := hown
  have hl : lv_has ls 1 [(0, .ref (B 0))] := hl
  have k63 := hts (.fieldLink RX10 63 "PigRounds" "latestFinding" "I") (by decide +kernel)
  have iX10 : ∀ w ∈ u_ws RX10 TX10 10, w ∈ wsX10_status := by decide +kernel
  refine lv_aload_n hx hb dX10_status_0 rfl (lv_at hl 0 rfl) ?_
  refine va_get (D := D) (ci := 8) (v := .int g_find) (C := RX10) (T := TX10) (N := 10) hx hb hts iX10 hown hK hP 0 rfl rfl 9 (by decide) k63 (fun _ h9 => h9) rfl dX10_status_1 ?_
  rw [hQm]
  exact mx_iret (u0 := sX10_status g_find) (rv := (fun u => some (.int u))) (w1 := (fun _ => pigW B S U Q V K Z2 Z3 g_landed g_fault g_find ++ R)) (u := (g_find)) hx hb hr hlocks hK hS rfl hP hD rfl dX10_status_4

def sX10_fault (g_fault : Int32) : Int32 := (g_fault)
set_option maxHeartbeats 4000000 in
set_option maxRecDepth 100000 in
theorem mtX10_fault (l : Launch) (D : va_G) (cI cB cK cS : ClassId) (B S U Q V K Z2 Z3 : Nat → Nat) (R : va_W) (g_landed : Int32) (g_fault : Int32) (g_find : Int32) : MX l yX10_fault wsX10_fault (rmX 1) D (tyX cI cB cK cS) pF0 (pigW B S U Q V K Z2 Z3 g_landed g_fault g_find ++ R) [.ref (B 0)] (sX10_fault g_fault) (fun u => some (.int u)) (fun _ => pigW B S U Q V K Z2 Z3 g_landed g_fault g_find ++ R) := by
  refine mx_intro (cc := cX10_fault) (maxL := 1) (ret := (some .int)) (by decide) rfl (Nat.le_of_ble_eq_true rfl) ?_
  intro p e s m below meth c A ls H locs Qm hQm hx hb hr hml hts hown hlocks hA hS hP hK hD hF hl
  have hown : s.vm.findClass RX10 = some m.cls := hown
  have hl : lv_has ls 1 [(0, .ref (B 0))] := hl
  have k59 := hts (.fieldLink RX10 59 "PigRounds" "latestFault" "I") (by decide +kernel)
  have iX10 : ∀ w ∈ u_ws RX10 TX10 10, w ∈ wsX10_fault := by decide +kernel
  refine lv_aload_n hx hb dX10_fault_0 rfl (lv_at hl 0 rfl) ?_
  refine va_get (D := D) (ci := 8) (v := .int g_fault) (C := RX10) (T := TX10) (N := 10) hx hb hts iX10 hown hK hP 0 rfl rfl 8 (by decide) k59 (fun _ h9 => h9) rfl dX10_fault_1 ?_
  rw [hQm]
  exact mx_iret (u0 := sX10_fault g_fault) (rv := (fun u => some (.int u))) (w1 := (fun _ => pigW B S U Q V K Z2 Z3 g_landed g_fault g_find ++ R)) (u := (g_fault)) hx hb hr hlocks hK hS rfl hP hD rfl dX10_fault_4

def sX10_kindOf (k : Int32) (f2 : Nat → Int32) : Option Nat := lt (sX2_kindAt k f2) (fun u_1 : Option Nat => if u_1 = none then ((none)) else ((some (u_1.getD 0))))
set_option maxHeartbeats 4000000 in
set_option maxRecDepth 100000 in
theorem mtX10_kindOf (l : Launch) (D : va_G) (cI cB cK cS : ClassId) (B S U Q V K Z2 Z3 : Nat → Nat) (R : va_W) (f2 : Nat → Int32) (kv2 : Nat → Nat → Int32) (mv2 : Nat → Int32) (g_landed : Int32) (g_fault : Int32) (g_find : Int32) (k : Int32) : MX l yX10_kindOf wsX10_kindOf (rmX 2) D (tyX cI cB cK cS) pF0 (landW Z2 cK f2 kv2 mv2 ++ (pigW B S U Q V K Z2 Z3 g_landed g_fault g_find ++ R)) [.ref (B 0), .int k] (sX10_kindOf k f2) (fun u => some (va_rf (u.map (fun j => Z2 (3 + j))))) (fun _ => landW Z2 cK f2 kv2 mv2 ++ (pigW B S U Q V K Z2 Z3 g_landed g_fault g_find ++ R)) := by
  refine mx_intro (cc := cX10_kindOf) (maxL := 2) (ret := (some (.object "PigRounds$Kind"))) (by decide) rfl (Nat.le_of_ble_eq_true rfl) ?_
  intro p e s m below meth c A ls H locs Qm hQm hx hb hr hml hts hown hlocks hA hS hP hK hD hF hl
  have hown : s.vm.findClass RX10 = some m.cls := hown
  have hl : lv_has ls 2 [(0, .ref (B 0)), (1, .int k)] := hl
  have k48 := hts (.fieldLink RX10 48 "PigRounds" "land" "LPigRounds$Land;") (by decide +kernel)
  have iX10 : ∀ w ∈ u_ws RX10 TX10 10, w ∈ wsX10_kindOf := by decide +kernel
  refine lv_aload_n hx hb dX10_kindOf_0 rfl (lv_at hl 0 rfl) ?_
  refine va_get (D := D) (ci := 8) (v := .ref (Z2 0)) (C := RX10) (T := TX10) (N := 10) hx hb hts iX10 hown hK hP 8 rfl rfl 5 (by decide) k48 (fun _ h9 => h9) rfl dX10_kindOf_1 ?_
  refine lv_iload_n hx hb dX10_kindOf_4 rfl (lv_at hl 1 rfl) ?_
  refine mx_callV (As := [.int k]) (rest := []) ⟨hx, hb, hml, hown, hts⟩ (mtX2_kindAt l D cI cB cK cS Z2 (pigW B S U Q V K Z2 Z3 g_landed g_fault g_find ++ R) f2 kv2 mv2 k) (cwV 1 hts gX10_kindOf_X2_kindAt rfl rfl rfl (by decide +kernel) ⟨Nat.le_of_ble_eq_true rfl, Nat.le_of_ble_eq_true rfl⟩) pF0_ok trivial hK hP hD hS hA 5 rfl rfl rfl rfl hl.1 rfl (Nat.le_of_ble_eq_true rfl) dX10_kindOf_5 ⟨Nat.le_refl _, Nat.le_refl _⟩ (fun u_1 H locs eu_1 hP hD hS => ?_)
  have hP : va_P D vwCl (landW Z2 cK f2 kv2 mv2 ++ (pigW B S U Q V K Z2 Z3 g_landed g_fault g_find ++ R)) H := hP
  have hD : va_D A (landW Z2 cK f2 kv2 mv2 ++ (pigW B S U Q V K Z2 Z3 g_landed g_fault g_find ++ R)) := hD
  rcases Classical.em (u_1 = none) with c_2 | c_2
  · refine W.eq (g2 := F0 m 8 ls [.null]) (by rw [c_2]; rfl) ?_
    rw [hQm]
    exact mx_aret (u0 := sX10_kindOf k f2) (rv := (fun u => some (va_rf (u.map (fun j => Z2 (3 + j)))))) (w1 := (fun _ => landW Z2 cK f2 kv2 mv2 ++ (pigW B S U Q V K Z2 Z3 g_landed g_fault g_find ++ R))) (u := (none)) hx hb hr hlocks hK hS (lt_eq eu_1 ((if_pos c_2).trans rfl)) hP hD rfl (Or.inl rfl) dX10_kindOf_8
  · have hj_2 : u_1.getD 0 < 5 := sX2_kindAt_lt eu_1 c_2
    refine W.eq (g2 := F0 m 8 ls [.ref (Z2 (3 + (u_1.getD 0)))]) (by rw [show u_1 = some (u_1.getD 0) from o_some c_2]; rfl) ?_
    rw [hQm]
    exact mx_aret (u0 := sX10_kindOf k f2) (rv := (fun u => some (va_rf (u.map (fun j => Z2 (3 + j)))))) (w1 := (fun _ => landW Z2 cK f2 kv2 mv2 ++ (pigW B S U Q V K Z2 Z3 g_landed g_fault g_find ++ R))) (u := (some (u_1.getD 0))) hx hb hr hlocks hK hS (lt_eq eu_1 ((if_neg c_2).trans rfl)) hP hD rfl (Or.inr ⟨_, rfl⟩) dX10_kindOf_8
theorem sX10_kindOf_lt {k : Int32} {f : Nat → Int32} {u : Option Nat} (e : u = sX10_kindOf k f) (h : ¬ u = none) : u.getD 0 < 5 := by
  have hz : sX10_kindOf k f = sX2_kindAt k f := by
    unfold sX10_kindOf
    simp only [lt]
    split
    · rename_i h1; exact h1.symm
    · rename_i h1; exact (o_some h1).symm
  rw [hz] at e
  exact sX2_kindAt_lt e h
def sX10_farmers (k : Int32) (w : Int32) (f2 : Nat → Int32) (kv2 : Nat → Nat → Int32) : Int32 × (Nat → Nat → Int32) := lt (sX10_kindOf k f2) (fun u_1 : Option Nat => if u_1 = none then (((-1000001), kv2)) else (if w = 0 then (((kv2 (u_1.getD 0)) 2, kv2)) else (if w = 1 then (((kv2 (u_1.getD 0)) 3, kv2)) else (if w = 2 then (((kv2 (u_1.getD 0)) 4, kv2)) else (if w = 3 then (((kv2 (u_1.getD 0)) 5, kv2)) else (if w = 4 then (((kv2 (u_1.getD 0)) 6, kv2)) else (if w = 5 then (if ((kv2 (u_1.getD 0)) 7) = 0 then ((0, kv2)) else ((1, kv2))) else (if w = 6 then (lt (sX2_guessOf (u_1.getD 0) f2 kv2) (fun u_11 : Int32 × (Nat → Nat → Int32) => (u_11.1, u_11.2))) else (if w = 7 then (lt (sX2_guessOf (u_1.getD 0) f2 kv2) (fun u_13 : Int32 × (Nat → Nat → Int32) => lt (sX1_pigsBy u_13.1 (u_13.2 (u_1.getD 0))) (fun u_14 : Int32 => (u_14, u_13.2)))) else (((-1000001), kv2)))))))))))
set_option maxHeartbeats 4000000 in
set_option maxRecDepth 100000 in
theorem mtX10_farmers (l : Launch) (D : va_G) (cI cB cK cS : ClassId) (B S U Q V K Z2 Z3 : Nat → Nat) (R : va_W) (f2 : Nat → Int32) (kv2 : Nat → Nat → Int32) (mv2 : Nat → Int32) (g_landed : Int32) (g_fault : Int32) (g_find : Int32) (k : Int32) (w : Int32) : MX l yX10_farmers wsX10_farmers (rmX 5) D (tyX cI cB cK cS) pF0 (landW Z2 cK f2 kv2 mv2 ++ (pigW B S U Q V K Z2 Z3 g_landed g_fault g_find ++ R)) [.ref (B 0), .int k, .int w] (sX10_farmers k w f2 kv2) (fun u => some (.int u.1)) (fun u => landW Z2 cK f2 u.2 mv2 ++ (pigW B S U Q V K Z2 Z3 g_landed g_fault g_find ++ R)) := by
  refine mx_intro (cc := cX10_farmers) (maxL := 4) (ret := (some .int)) (by decide) rfl (Nat.le_of_ble_eq_true rfl) ?_
  intro p e s m below meth c A ls H locs Qm hQm hx hb hr hml hts hown hlocks hA hS hP hK hD hF hl
  have hown : s.vm.findClass RX10 = some m.cls := hown
  have hl : lv_has ls 4 [(0, .ref (B 0)), (1, .int k), (2, .int w)] := hl
  have k71 := hts (.constant RX10 71 (-1000001)) (by decide +kernel)
  have k138 := hts (.fieldLink RX10 138 "PigRounds$Kind" "many" "I") (by decide +kernel)
  have k143 := hts (.fieldLink RX10 143 "PigRounds$Kind" "base" "I") (by decide +kernel)
  have k146 := hts (.fieldLink RX10 146 "PigRounds$Kind" "slope" "I") (by decide +kernel)
  have k149 := hts (.fieldLink RX10 149 "PigRounds$Kind" "rent" "I") (by decide +kernel)
  have k152 := hts (.fieldLink RX10 152 "PigRounds$Kind" "coin" "I") (by decide +kernel)
  have k155 := hts (.fieldLink RX10 155 "PigRounds$Kind" "out" "Z") (by decide +kernel)
  have k48 := hts (.fieldLink RX10 48 "PigRounds" "land" "LPigRounds$Land;") (by decide +kernel)
  have iX1 : ∀ w ∈ u_ws RX1 TX1 9, w ∈ wsX10_farmers := by decide +kernel
  have iX10 : ∀ w ∈ u_ws RX10 TX10 10, w ∈ wsX10_farmers := by decide +kernel
  refine lv_aload_n hx hb dX10_farmers_0 rfl (lv_at hl 0 rfl) ?_
  refine lv_iload_n hx hb dX10_farmers_1 rfl (lv_at hl 1 rfl) ?_
  refine mx_callV (As := [.int k]) (rest := []) ⟨hx, hb, hml, hown, hts⟩ (mtX10_kindOf l D cI cB cK cS B S U Q V K Z2 Z3 R f2 kv2 mv2 g_landed g_fault g_find k) (cwV 1 hts gX10_farmers_X10_kindOf rfl rfl rfl (by decide +kernel) ⟨Nat.le_of_ble_eq_true rfl, Nat.le_of_ble_eq_true rfl⟩) pF0_ok trivial hK hP hD hS hA 8 rfl rfl rfl rfl hl.1 rfl (Nat.le_of_ble_eq_true rfl) dX10_farmers_2 ⟨Nat.le_refl _, Nat.le_refl _⟩ (fun u_1 H locs eu_1 hP hD hS => ?_)
  have hP : va_P D vwCl (landW Z2 cK f2 kv2 mv2 ++ (pigW B S U Q V K Z2 Z3 g_landed g_fault g_find ++ R)) H := hP
  have hD : va_D A (landW Z2 cK f2 kv2 mv2 ++ (pigW B S U Q V K Z2 Z3 g_landed g_fault g_find ++ R)) := hD
  rcases Classical.em (u_1 = none) with c_2 | c_2
  · refine W.eq (g2 := F0 m 5 ls [.null]) (by rw [c_2]; rfl) ?_
    refine lv_astore_nN (lv' := [(3, .null), (0, .ref (B 0)), (1, .int k), (2, .int w)]) hx hb dX10_farmers_5 rfl hl (by decide) rfl (fun ls hl => ?_)
    refine lv_aload_nN hx hb dX10_farmers_6 rfl (lv_at hl 0 rfl) ?_
    refine lv_ifnonnullN hx hb dX10_farmers_7 ?_
    refine lv_ldc (v := (-1000001)) hx hb hown k71 dX10_farmers_10 ?_
    rw [hQm]
    exact mx_iret (u0 := sX10_farmers k w f2 kv2) (rv := (fun u => some (.int u.1))) (w1 := (fun u => landW Z2 cK f2 u.2 mv2 ++ (pigW B S U Q V K Z2 Z3 g_landed g_fault g_find ++ R))) (u := ((-1000001), kv2)) hx hb hr hlocks hK hS (lt_eq eu_1 ((if_pos c_2).trans rfl)) hP hD rfl dX10_farmers_12
  · have hj_2 : u_1.getD 0 < 5 := sX10_kindOf_lt eu_1 c_2
    refine W.eq (g2 := F0 m 5 ls [.ref (Z2 (3 + (u_1.getD 0)))]) (by rw [show u_1 = some (u_1.getD 0) from o_some c_2]; rfl) ?_
    refine lv_astore_n (lv' := [(3, .ref (Z2 (3 + (u_1.getD 0)))), (0, .ref (B 0)), (1, .int k), (2, .int w)]) hx hb dX10_farmers_5 rfl hl (by decide) rfl (fun ls hl => ?_)
    refine lv_aload_n hx hb dX10_farmers_6 rfl (lv_at hl 0 rfl) ?_
    refine lv_ifnonnull (tgt := 13) hx hb dX10_farmers_7 (by decide) ?_
    refine lv_iload_n hx hb dX10_farmers_13 rfl (lv_at hl 3 rfl) ?_
    rcases Classical.em (w = 0) with c_3 | c_3
    · refine lv_tableIn (tgt := 60) hx hb dX10_farmers_14 (by rw [c_3]; decide) (by rw [c_3]; decide) (by rw [c_3]; rfl) (by decide) ?_
      have d_3 := i_eq rfl (show (0 : Int32).toInt = 0 from by decide) c_3
      refine lv_aload_n hx hb dX10_farmers_60 rfl (lv_at hl 0 rfl) ?_
      refine va_get (D := D) (ci := 1) (v := .int ((kv2 (u_1.getD 0)) 2)) (C := RX1) (T := TX1) (N := 9) hx hb hts iX1 hown hK hP (u_1.getD 0) (kk_get hj_2) rfl 2 (by decide) k138 (fun _ h9 => h9) rfl dX10_farmers_61 ?_
      rw [hQm]
      exact mx_iret (u0 := sX10_farmers k w f2 kv2) (rv := (fun u => some (.int u.1))) (w1 := (fun u => landW Z2 cK f2 u.2 mv2 ++ (pigW B S U Q V K Z2 Z3 g_landed g_fault g_find ++ R))) (u := ((kv2 (u_1.getD 0)) 2, kv2)) hx hb hr hlocks hK hS (lt_eq eu_1 ((if_neg c_2).trans ((if_pos c_3).trans rfl))) hP hD rfl dX10_farmers_64
    · rcases Classical.em (w = 1) with c_4 | c_4
      · refine lv_tableIn (tgt := 65) hx hb dX10_farmers_14 (by rw [c_4]; decide) (by rw [c_4]; decide) (by rw [c_4]; rfl) (by decide) ?_
        have d_4 := i_eq rfl (show (1 : Int32).toInt = 1 from by decide) c_4
        refine lv_aload_n hx hb dX10_farmers_65 rfl (lv_at hl 0 rfl) ?_
        refine va_get (D := D) (ci := 1) (v := .int ((kv2 (u_1.getD 0)) 3)) (C := RX1) (T := TX1) (N := 9) hx hb hts iX1 hown hK hP (u_1.getD 0) (kk_get hj_2) rfl 3 (by decide) k143 (fun _ h9 => h9) rfl dX10_farmers_66 ?_
        rw [hQm]
        exact mx_iret (u0 := sX10_farmers k w f2 kv2) (rv := (fun u => some (.int u.1))) (w1 := (fun u => landW Z2 cK f2 u.2 mv2 ++ (pigW B S U Q V K Z2 Z3 g_landed g_fault g_find ++ R))) (u := ((kv2 (u_1.getD 0)) 3, kv2)) hx hb hr hlocks hK hS (lt_eq eu_1 ((if_neg c_2).trans ((if_neg c_3).trans ((if_pos c_4).trans rfl)))) hP hD rfl dX10_farmers_69
      · rcases Classical.em (w = 2) with c_5 | c_5
        · refine lv_tableIn (tgt := 70) hx hb dX10_farmers_14 (by rw [c_5]; decide) (by rw [c_5]; decide) (by rw [c_5]; rfl) (by decide) ?_
          have d_5 := i_eq rfl (show (2 : Int32).toInt = 2 from by decide) c_5
          refine lv_aload_n hx hb dX10_farmers_70 rfl (lv_at hl 0 rfl) ?_
          refine va_get (D := D) (ci := 1) (v := .int ((kv2 (u_1.getD 0)) 4)) (C := RX1) (T := TX1) (N := 9) hx hb hts iX1 hown hK hP (u_1.getD 0) (kk_get hj_2) rfl 4 (by decide) k146 (fun _ h9 => h9) rfl dX10_farmers_71 ?_
          rw [hQm]
          exact mx_iret (u0 := sX10_farmers k w f2 kv2) (rv := (fun u => some (.int u.1))) (w1 := (fun u => landW Z2 cK f2 u.2 mv2 ++ (pigW B S U Q V K Z2 Z3 g_landed g_fault g_find ++ R))) (u := ((kv2 (u_1.getD 0)) 4, kv2)) hx hb hr hlocks hK hS (lt_eq eu_1 ((if_neg c_2).trans ((if_neg c_3).trans ((if_neg c_4).trans ((if_pos c_5).trans rfl))))) hP hD rfl dX10_farmers_74
        · rcases Classical.em (w = 3) with c_6 | c_6
          · refine lv_tableIn (tgt := 75) hx hb dX10_farmers_14 (by rw [c_6]; decide) (by rw [c_6]; decide) (by rw [c_6]; rfl) (by decide) ?_
            have d_6 := i_eq rfl (show (3 : Int32).toInt = 3 from by decide) c_6
            refine lv_aload_n hx hb dX10_farmers_75 rfl (lv_at hl 0 rfl) ?_
            refine va_get (D := D) (ci := 1) (v := .int ((kv2 (u_1.getD 0)) 5)) (C := RX1) (T := TX1) (N := 9) hx hb hts iX1 hown hK hP (u_1.getD 0) (kk_get hj_2) rfl 5 (by decide) k149 (fun _ h9 => h9) rfl dX10_farmers_76 ?_
            rw [hQm]
            exact mx_iret (u0 := sX10_farmers k w f2 kv2) (rv := (fun u => some (.int u.1))) (w1 := (fun u => landW Z2 cK f2 u.2 mv2 ++ (pigW B S U Q V K Z2 Z3 g_landed g_fault g_find ++ R))) (u := ((kv2 (u_1.getD 0)) 5, kv2)) hx hb hr hlocks hK hS (lt_eq eu_1 ((if_neg c_2).trans ((if_neg c_3).trans ((if_neg c_4).trans ((if_neg c_5).trans ((if_pos c_6).trans rfl)))))) hP hD rfl dX10_farmers_79
          · rcases Classical.em (w = 4) with c_7 | c_7
            · refine lv_tableIn (tgt := 80) hx hb dX10_farmers_14 (by rw [c_7]; decide) (by rw [c_7]; decide) (by rw [c_7]; rfl) (by decide) ?_
              have d_7 := i_eq rfl (show (4 : Int32).toInt = 4 from by decide) c_7
              refine lv_aload_n hx hb dX10_farmers_80 rfl (lv_at hl 0 rfl) ?_
              refine va_get (D := D) (ci := 1) (v := .int ((kv2 (u_1.getD 0)) 6)) (C := RX1) (T := TX1) (N := 9) hx hb hts iX1 hown hK hP (u_1.getD 0) (kk_get hj_2) rfl 6 (by decide) k152 (fun _ h9 => h9) rfl dX10_farmers_81 ?_
              rw [hQm]
              exact mx_iret (u0 := sX10_farmers k w f2 kv2) (rv := (fun u => some (.int u.1))) (w1 := (fun u => landW Z2 cK f2 u.2 mv2 ++ (pigW B S U Q V K Z2 Z3 g_landed g_fault g_find ++ R))) (u := ((kv2 (u_1.getD 0)) 6, kv2)) hx hb hr hlocks hK hS (lt_eq eu_1 ((if_neg c_2).trans ((if_neg c_3).trans ((if_neg c_4).trans ((if_neg c_5).trans ((if_neg c_6).trans ((if_pos c_7).trans rfl))))))) hP hD rfl dX10_farmers_84
            · rcases Classical.em (w = 5) with c_8 | c_8
              · refine lv_tableIn (tgt := 85) hx hb dX10_farmers_14 (by rw [c_8]; decide) (by rw [c_8]; decide) (by rw [c_8]; rfl) (by decide) ?_
                have d_8 := i_eq rfl (show (5 : Int32).toInt = 5 from by decide) c_8
                refine lv_aload_n hx hb dX10_farmers_85 rfl (lv_at hl 0 rfl) ?_
                refine va_get (D := D) (ci := 1) (v := .int ((kv2 (u_1.getD 0)) 7)) (C := RX1) (T := TX1) (N := 9) hx hb hts iX1 hown hK hP (u_1.getD 0) (kk_get hj_2) rfl 7 (by decide) k155 (fun _ h9 => h9) rfl dX10_farmers_86 ?_
                refine lv_if_eq (tgt := 96) hx hb dX10_farmers_89 (by decide) (fun c_9 => ?_) (fun c_9 => ?_)
                · have d_9 := i_eq rfl (show (0 : Int32).toInt = 0 from by decide) c_9
                  refine lv_iconst (v := 0) hx hb dX10_farmers_96 (by decide) ?_
                  rw [hQm]
                  exact mx_iret (u0 := sX10_farmers k w f2 kv2) (rv := (fun u => some (.int u.1))) (w1 := (fun u => landW Z2 cK f2 u.2 mv2 ++ (pigW B S U Q V K Z2 Z3 g_landed g_fault g_find ++ R))) (u := (0, kv2)) hx hb hr hlocks hK hS (lt_eq eu_1 ((if_neg c_2).trans ((if_neg c_3).trans ((if_neg c_4).trans ((if_neg c_5).trans ((if_neg c_6).trans ((if_neg c_7).trans ((if_pos c_8).trans ((if_pos c_9).trans rfl))))))))) hP hD rfl dX10_farmers_97
                · have d_9 := i_eqn rfl (show (0 : Int32).toInt = 0 from by decide) c_9
                  refine lv_iconst (v := 1) hx hb dX10_farmers_92 (by decide) ?_
                  refine lv_goto (tgt := 97) hx hb dX10_farmers_93 (by decide) ?_
                  rw [hQm]
                  exact mx_iret (u0 := sX10_farmers k w f2 kv2) (rv := (fun u => some (.int u.1))) (w1 := (fun u => landW Z2 cK f2 u.2 mv2 ++ (pigW B S U Q V K Z2 Z3 g_landed g_fault g_find ++ R))) (u := (1, kv2)) hx hb hr hlocks hK hS (lt_eq eu_1 ((if_neg c_2).trans ((if_neg c_3).trans ((if_neg c_4).trans ((if_neg c_5).trans ((if_neg c_6).trans ((if_neg c_7).trans ((if_pos c_8).trans ((if_neg c_9).trans rfl))))))))) hP hD rfl dX10_farmers_97
              · rcases Classical.em (w = 6) with c_10 | c_10
                · refine lv_tableIn (tgt := 98) hx hb dX10_farmers_14 (by rw [c_10]; decide) (by rw [c_10]; decide) (by rw [c_10]; rfl) (by decide) ?_
                  have d_10 := i_eq rfl (show (6 : Int32).toInt = 6 from by decide) c_10
                  refine lv_aload_n hx hb dX10_farmers_98 rfl (lv_at hl 1 rfl) ?_
                  refine va_get (D := D) (ci := 8) (v := .ref (Z2 0)) (C := RX10) (T := TX10) (N := 10) hx hb hts iX10 hown hK hP 8 rfl rfl 5 (by decide) k48 (fun _ h9 => h9) rfl dX10_farmers_99 ?_
                  refine lv_aload_n hx hb dX10_farmers_102 rfl (lv_at hl 0 rfl) ?_
                  refine mx_callV (As := [.ref (Z2 (3 + (u_1.getD 0)))]) (rest := []) ⟨hx, hb, hml, hown, hts⟩ (mtX2_guessOf l D cI cB cK cS Z2 (pigW B S U Q V K Z2 Z3 g_landed g_fault g_find ++ R) (u_1.getD 0) f2 kv2 mv2 hj_2) (cwV 1 hts gX10_farmers_X2_guessOf rfl rfl rfl (by decide +kernel) ⟨Nat.le_of_ble_eq_true rfl, Nat.le_of_ble_eq_true rfl⟩) pF0_ok trivial hK hP hD hS hA 5 rfl rfl rfl rfl hl.1 rfl (Nat.le_of_ble_eq_true rfl) dX10_farmers_103 ⟨Nat.le_refl _, Nat.le_refl _⟩ (fun u_11 H locs eu_11 hP hD hS => ?_)
                  refine W.eq (g2 := F0 m 106 ls [.int u_11.1]) rfl ?_
                  have hP : va_P D vwCl (landW Z2 cK f2 u_11.2 mv2 ++ (pigW B S U Q V K Z2 Z3 g_landed g_fault g_find ++ R)) H := hP
                  have hD : va_D A (landW Z2 cK f2 u_11.2 mv2 ++ (pigW B S U Q V K Z2 Z3 g_landed g_fault g_find ++ R)) := hD
                  rw [hQm]
                  exact mx_iret (u0 := sX10_farmers k w f2 kv2) (rv := (fun u => some (.int u.1))) (w1 := (fun u => landW Z2 cK f2 u.2 mv2 ++ (pigW B S U Q V K Z2 Z3 g_landed g_fault g_find ++ R))) (u := (u_11.1, u_11.2)) hx hb hr hlocks hK hS (lt_eq eu_1 ((if_neg c_2).trans ((if_neg c_3).trans ((if_neg c_4).trans ((if_neg c_5).trans ((if_neg c_6).trans ((if_neg c_7).trans ((if_neg c_8).trans ((if_pos c_10).trans (lt_eq eu_11 rfl)))))))))) hP hD rfl dX10_farmers_106
                · rcases Classical.em (w = 7) with c_12 | c_12
                  · refine lv_tableIn (tgt := 107) hx hb dX10_farmers_14 (by rw [c_12]; decide) (by rw [c_12]; decide) (by rw [c_12]; rfl) (by decide) ?_
                    have d_12 := i_eq rfl (show (7 : Int32).toInt = 7 from by decide) c_12
                    refine lv_aload_n hx hb dX10_farmers_107 rfl (lv_at hl 0 rfl) ?_
                    refine lv_aload_n hx hb dX10_farmers_108 rfl (lv_at hl 1 rfl) ?_
                    refine va_get (D := D) (ci := 8) (v := .ref (Z2 0)) (C := RX10) (T := TX10) (N := 10) hx hb hts iX10 hown hK hP 8 rfl rfl 5 (by decide) k48 (fun _ h9 => h9) rfl dX10_farmers_109 ?_
                    refine lv_aload_n hx hb dX10_farmers_112 rfl (lv_at hl 0 rfl) ?_
                    refine mx_callV (As := [.ref (Z2 (3 + (u_1.getD 0)))]) (rest := [.ref (Z2 (3 + (u_1.getD 0)))]) ⟨hx, hb, hml, hown, hts⟩ (mtX2_guessOf l D cI cB cK cS Z2 (pigW B S U Q V K Z2 Z3 g_landed g_fault g_find ++ R) (u_1.getD 0) f2 kv2 mv2 hj_2) (cwV 1 hts gX10_farmers_X2_guessOf rfl rfl rfl (by decide +kernel) ⟨Nat.le_of_ble_eq_true rfl, Nat.le_of_ble_eq_true rfl⟩) pF0_ok trivial hK hP hD hS hA 5 rfl rfl rfl rfl hl.1 rfl (Nat.le_of_ble_eq_true rfl) dX10_farmers_113 ⟨Nat.le_refl _, Nat.le_refl _⟩ (fun u_13 H locs eu_13 hP hD hS => ?_)
                    refine W.eq (g2 := F0 m 116 ls [.int u_13.1, .ref (Z2 (3 + (u_1.getD 0)))]) rfl ?_
                    have hP : va_P D vwCl (landW Z2 cK f2 u_13.2 mv2 ++ (pigW B S U Q V K Z2 Z3 g_landed g_fault g_find ++ R)) H := hP
                    have hD : va_D A (landW Z2 cK f2 u_13.2 mv2 ++ (pigW B S U Q V K Z2 Z3 g_landed g_fault g_find ++ R)) := hD
                    refine mx_callV (As := [.int u_13.1]) (rest := []) ⟨hx, hb, hml, hown, hts⟩ (mtX1_pigsBy l D cI cB cK cS (landW Z2 cK f2 u_13.2 mv2 ++ (pigW B S U Q V K Z2 Z3 g_landed g_fault g_find ++ R)) (Z2 (3 + (u_1.getD 0))) (u_1.getD 0) (u_13.2 (u_1.getD 0)) u_13.1 (kk_get hj_2)) (cwV 1 hts gX10_farmers_X1_pigsBy rfl rfl rfl (by decide +kernel) ⟨Nat.le_of_ble_eq_true rfl, Nat.le_of_ble_eq_true rfl⟩) pF0_ok trivial hK hP hD hS hA (u_1.getD 0) (kk_get hj_2) rfl rfl rfl hl.1 rfl (Nat.le_of_ble_eq_true rfl) dX10_farmers_116 ⟨Nat.le_refl _, Nat.le_refl _⟩ (fun u_14 H locs eu_14 hP hD hS => ?_)
                    refine W.eq (g2 := F0 m 119 ls [.int u_14]) rfl ?_
                    have hP : va_P D vwCl (landW Z2 cK f2 u_13.2 mv2 ++ (pigW B S U Q V K Z2 Z3 g_landed g_fault g_find ++ R)) H := hP
                    have hD : va_D A (landW Z2 cK f2 u_13.2 mv2 ++ (pigW B S U Q V K Z2 Z3 g_landed g_fault g_find ++ R)) := hD
                    rw [hQm]
                    exact mx_iret (u0 := sX10_farmers k w f2 kv2) (rv := (fun u => some (.int u.1))) (w1 := (fun u => landW Z2 cK f2 u.2 mv2 ++ (pigW B S U Q V K Z2 Z3 g_landed g_fault g_find ++ R))) (u := (u_14, u_13.2)) hx hb hr hlocks hK hS (lt_eq eu_1 ((if_neg c_2).trans ((if_neg c_3).trans ((if_neg c_4).trans ((if_neg c_5).trans ((if_neg c_6).trans ((if_neg c_7).trans ((if_neg c_8).trans ((if_neg c_10).trans ((if_pos c_12).trans (lt_eq eu_13 (lt_eq eu_14 rfl)))))))))))) hP hD rfl dX10_farmers_119
                  · refine lv_tableOut (tgt := 120) hx hb dX10_farmers_14 (by have := lv_neT c_3 (show (0 : Int32).toInt = 0 from by decide); have := lv_neT c_4 (show (1 : Int32).toInt = 1 from by decide); have := lv_neT c_5 (show (2 : Int32).toInt = 2 from by decide); have := lv_neT c_6 (show (3 : Int32).toInt = 3 from by decide); have := lv_neT c_7 (show (4 : Int32).toInt = 4 from by decide); have := lv_neT c_8 (show (5 : Int32).toInt = 5 from by decide); have := lv_neT c_10 (show (6 : Int32).toInt = 6 from by decide); have := lv_neT c_12 (show (7 : Int32).toInt = 7 from by decide); omega) (by decide) ?_
                    refine lv_ldc (v := (-1000001)) hx hb hown k71 dX10_farmers_120 ?_
                    rw [hQm]
                    exact mx_iret (u0 := sX10_farmers k w f2 kv2) (rv := (fun u => some (.int u.1))) (w1 := (fun u => landW Z2 cK f2 u.2 mv2 ++ (pigW B S U Q V K Z2 Z3 g_landed g_fault g_find ++ R))) (u := ((-1000001), kv2)) hx hb hr hlocks hK hS (lt_eq eu_1 ((if_neg c_2).trans ((if_neg c_3).trans ((if_neg c_4).trans ((if_neg c_5).trans ((if_neg c_6).trans ((if_neg c_7).trans ((if_neg c_8).trans ((if_neg c_10).trans ((if_neg c_12).trans rfl)))))))))) hP hD rfl dX10_farmers_122

def sX10_print (k : Int32) (f2 : Nat → Int32) (g_landed : Int32) : Int32 × (Nat → Int32) := if k < 0 then (((-1000001), f2)) else (if k ≤ 99 then (if g_landed = 0 then (((-1000002), f2)) else (((f2 9), upd f2 9 k))) else (((-1000001), f2)))
set_option maxHeartbeats 4000000 in
set_option maxRecDepth 100000 in
theorem mtX10_print (l : Launch) (D : va_G) (cI cB cK cS : ClassId) (B S U Q V K Z2 Z3 : Nat → Nat) (R : va_W) (f2 : Nat → Int32) (kv2 : Nat → Nat → Int32) (mv2 : Nat → Int32) (g_landed : Int32) (g_fault : Int32) (g_find : Int32) (k : Int32) : MX l yX10_print wsX10_print (rmX 1) D (tyX cI cB cK cS) pF0 (landW Z2 cK f2 kv2 mv2 ++ (pigW B S U Q V K Z2 Z3 g_landed g_fault g_find ++ R)) [.ref (B 0), .int k] (sX10_print k f2 g_landed) (fun u => some (.int u.1)) (fun u => landW Z2 cK u.2 kv2 mv2 ++ (pigW B S U Q V K Z2 Z3 g_landed g_fault g_find ++ R)) := by
  refine mx_intro (cc := cX10_print) (maxL := 3) (ret := (some .int)) (by decide) rfl (Nat.le_of_ble_eq_true rfl) ?_
  intro p e s m below meth c A ls H locs Qm hQm hx hb hr hml hts hown hlocks hA hS hP hK hD hF hl
  have hown : s.vm.findClass RX10 = some m.cls := hown
  have hl : lv_has ls 3 [(0, .ref (B 0)), (1, .int k)] := hl
  have k71 := hts (.constant RX10 71 (-1000001)) (by decide +kernel)
  have k55 := hts (.fieldLink RX10 55 "PigRounds" "landed" "Z") (by decide +kernel)
  have k48 := hts (.fieldLink RX10 48 "PigRounds" "land" "LPigRounds$Land;") (by decide +kernel)
  have k166 := hts (.fieldLink RX10 166 "PigRounds$Land" "printed" "I") (by decide +kernel)
  have k165 := hts (.constant RX10 165 (-1000002)) (by decide +kernel)
  have iX10 : ∀ w ∈ u_ws RX10 TX10 10, w ∈ wsX10_print := by decide +kernel
  have iX2 : ∀ w ∈ u_ws RX2 TX2 12, w ∈ wsX10_print := by decide +kernel
  refine lv_iload_n hx hb dX10_print_0 rfl (lv_at hl 1 rfl) ?_
  refine lv_if_lt (tgt := 10) hx hb dX10_print_1 (by decide) (fun c_1 => ?_) (fun c_1 => ?_)
  · refine lv_ldc (v := (-1000001)) hx hb hown k71 dX10_print_10 ?_
    rw [hQm]
    exact mx_iret (u0 := sX10_print k f2 g_landed) (rv := (fun u => some (.int u.1))) (w1 := (fun u => landW Z2 cK u.2 kv2 mv2 ++ (pigW B S U Q V K Z2 Z3 g_landed g_fault g_find ++ R))) (u := ((-1000001), f2)) hx hb hr hlocks hK hS ((if_pos c_1).trans rfl) hP hD rfl dX10_print_12
  · refine lv_iload_n hx hb dX10_print_4 rfl (lv_at hl 1 rfl) ?_
    refine lv_bipush (v := 99) hx hb dX10_print_5 (by decide) ?_
    refine lv_icmp_le (tgt := 13) hx hb dX10_print_7 (by decide) (fun c_2 => ?_) (fun c_2 => ?_)
    · refine lv_aload_n hx hb dX10_print_13 rfl (lv_at hl 0 rfl) ?_
      refine va_get (D := D) (ci := 8) (v := .int g_landed) (C := RX10) (T := TX10) (N := 10) hx hb hts iX10 hown hK hP 8 rfl rfl 7 (by decide) k55 (fun _ h9 => h9) rfl dX10_print_14 ?_
      refine lv_if_ne (tgt := 23) hx hb dX10_print_17 (by decide) (fun c_3 => ?_) (fun c_3 => ?_)
      · refine lv_aload_n hx hb dX10_print_23 rfl (lv_at hl 0 rfl) ?_
        refine va_get (D := D) (ci := 8) (v := .ref (Z2 0)) (C := RX10) (T := TX10) (N := 10) hx hb hts iX10 hown hK hP 8 rfl rfl 5 (by decide) k48 (fun _ h9 => h9) rfl dX10_print_24 ?_
        refine va_get (D := D) (ci := 2) (v := .int (f2 9)) (C := RX2) (T := TX2) (N := 12) hx hb hts iX2 hown hK hP 5 rfl rfl 9 (by decide) k166 (fun _ h9 => h9) rfl dX10_print_27 ?_
        refine lv_istore_n (lv' := [(2, .int (f2 9)), (0, .ref (B 0)), (1, .int k)]) hx hb dX10_print_30 rfl hl (by decide) rfl (fun ls hl => ?_)
        refine lv_aload_n hx hb dX10_print_31 rfl (lv_at hl 1 rfl) ?_
        refine va_get (D := D) (ci := 8) (v := .ref (Z2 0)) (C := RX10) (T := TX10) (N := 10) hx hb hts iX10 hown hK hP 8 rfl rfl 5 (by decide) k48 (fun _ h9 => h9) rfl dX10_print_32 ?_
        refine lv_iload_n hx hb dX10_print_35 rfl (lv_at hl 2 rfl) ?_
        refine va_put (D := D) (ci := 2) (v := .int k) (ty := .int) (C := RX2) (T := TX2) (N := 12) hx hb hts iX2 tyX2 tyX2_ok nmX2 hown hK hP hD hS 5 rfl rfl 9 (by decide) k166 (fun _ h9 => h9) rfl (by decide +kernel) rfl rfl (Nat.le_of_ble_eq_true rfl) dX10_print_36 (fun H locs hP hD hS => ?_)
        have hP : va_P D vwCl (landW Z2 cK (upd f2 9 k) kv2 mv2 ++ (pigW B S U Q V K Z2 Z3 g_landed g_fault g_find ++ R)) H := hP
        have hD : va_D A (landW Z2 cK (upd f2 9 k) kv2 mv2 ++ (pigW B S U Q V K Z2 Z3 g_landed g_fault g_find ++ R)) := hD
        refine lv_iload_n hx hb dX10_print_39 rfl (lv_at hl 0 rfl) ?_
        rw [hQm]
        exact mx_iret (u0 := sX10_print k f2 g_landed) (rv := (fun u => some (.int u.1))) (w1 := (fun u => landW Z2 cK u.2 kv2 mv2 ++ (pigW B S U Q V K Z2 Z3 g_landed g_fault g_find ++ R))) (u := ((f2 9), upd f2 9 k)) hx hb hr hlocks hK hS ((if_neg c_1).trans ((if_pos c_2).trans ((if_neg c_3).trans rfl))) hP hD rfl dX10_print_40
      · refine lv_ldc (v := (-1000002)) hx hb hown k165 dX10_print_20 ?_
        rw [hQm]
        exact mx_iret (u0 := sX10_print k f2 g_landed) (rv := (fun u => some (.int u.1))) (w1 := (fun u => landW Z2 cK u.2 kv2 mv2 ++ (pigW B S U Q V K Z2 Z3 g_landed g_fault g_find ++ R))) (u := ((-1000002), f2)) hx hb hr hlocks hK hS ((if_neg c_1).trans ((if_pos c_2).trans ((if_pos c_3).trans rfl))) hP hD rfl dX10_print_22
    · refine lv_ldc (v := (-1000001)) hx hb hown k71 dX10_print_10 ?_
      rw [hQm]
      exact mx_iret (u0 := sX10_print k f2 g_landed) (rv := (fun u => some (.int u.1))) (w1 := (fun u => landW Z2 cK u.2 kv2 mv2 ++ (pigW B S U Q V K Z2 Z3 g_landed g_fault g_find ++ R))) (u := ((-1000001), f2)) hx hb hr hlocks hK hS ((if_neg c_1).trans ((if_neg c_2).trans rfl)) hP hD rfl dX10_print_12

def sX10_ministry (a : Int32) (b : Int32) (d : Int32) (mv2 : Nat → Int32) (g_landed : Int32) : Int32 × (Nat → Int32) := if a < 0 then (((-1000001), mv2)) else (if b < a then (((-1000001), mv2)) else (if 99 < b then (((-1000001), mv2)) else (if d < 0 then (((-1000001), mv2)) else (if d ≤ 99 then (if g_landed = 0 then (((-1000002), mv2)) else (lt (sX3_order a b d mv2) (fun u_7 : (Nat → Int32) => (1, u_7)))) else (((-1000001), mv2))))))
set_option maxHeartbeats 4000000 in
set_option maxRecDepth 100000 in
theorem mtX10_ministry (l : Launch) (D : va_G) (cI cB cK cS : ClassId) (B S U Q V K Z2 Z3 : Nat → Nat) (R : va_W) (f2 : Nat → Int32) (kv2 : Nat → Nat → Int32) (mv2 : Nat → Int32) (g_landed : Int32) (g_fault : Int32) (g_find : Int32) (a : Int32) (b : Int32) (d : Int32) : MX l yX10_ministry wsX10_ministry (rmX 2) D (tyX cI cB cK cS) pF0 (landW Z2 cK f2 kv2 mv2 ++ (pigW B S U Q V K Z2 Z3 g_landed g_fault g_find ++ R)) [.ref (B 0), .int a, .int b, .int d] (sX10_ministry a b d mv2 g_landed) (fun u => some (.int u.1)) (fun u => landW Z2 cK f2 kv2 u.2 ++ (pigW B S U Q V K Z2 Z3 g_landed g_fault g_find ++ R)) := by
  refine mx_intro (cc := cX10_ministry) (maxL := 4) (ret := (some .int)) (by decide) rfl (Nat.le_of_ble_eq_true rfl) ?_
  intro p e s m below meth c A ls H locs Qm hQm hx hb hr hml hts hown hlocks hA hS hP hK hD hF hl
  have hown : s.vm.findClass RX10 = some m.cls := hown
  have hl : lv_has ls 4 [(0, .ref (B 0)), (1, .int a), (2, .int b), (3, .int d)] := hl
  have k71 := hts (.constant RX10 71 (-1000001)) (by decide +kernel)
  have k55 := hts (.fieldLink RX10 55 "PigRounds" "landed" "Z") (by decide +kernel)
  have k48 := hts (.fieldLink RX10 48 "PigRounds" "land" "LPigRounds$Land;") (by decide +kernel)
  have k169 := hts (.fieldLink RX10 169 "PigRounds$Land" "ministry" "LPigRounds$Ministry;") (by decide +kernel)
  have k165 := hts (.constant RX10 165 (-1000002)) (by decide +kernel)
  have iX10 : ∀ w ∈ u_ws RX10 TX10 10, w ∈ wsX10_ministry := by decide +kernel
  have iX2 : ∀ w ∈ u_ws RX2 TX2 12, w ∈ wsX10_ministry := by decide +kernel
  refine lv_iload_n hx hb dX10_ministry_0 rfl (lv_at hl 1 rfl) ?_
  refine lv_if_lt (tgt := 25) hx hb dX10_ministry_1 (by decide) (fun c_1 => ?_) (fun c_1 => ?_)
  · refine lv_ldc (v := (-1000001)) hx hb hown k71 dX10_ministry_25 ?_
    rw [hQm]
    exact mx_iret (u0 := sX10_ministry a b d mv2 g_landed) (rv := (fun u => some (.int u.1))) (w1 := (fun u => landW Z2 cK f2 kv2 u.2 ++ (pigW B S U Q V K Z2 Z3 g_landed g_fault g_find ++ R))) (u := ((-1000001), mv2)) hx hb hr hlocks hK hS ((if_pos c_1).trans rfl) hP hD rfl dX10_ministry_27
  · refine lv_iload_n hx hb dX10_ministry_4 rfl (lv_at hl 2 rfl) ?_
    refine lv_iload_n hx hb dX10_ministry_5 rfl (lv_at hl 1 rfl) ?_
    refine lv_icmp_lt (tgt := 25) hx hb dX10_ministry_6 (by decide) (fun c_2 => ?_) (fun c_2 => ?_)
    · refine lv_ldc (v := (-1000001)) hx hb hown k71 dX10_ministry_25 ?_
      rw [hQm]
      exact mx_iret (u0 := sX10_ministry a b d mv2 g_landed) (rv := (fun u => some (.int u.1))) (w1 := (fun u => landW Z2 cK f2 kv2 u.2 ++ (pigW B S U Q V K Z2 Z3 g_landed g_fault g_find ++ R))) (u := ((-1000001), mv2)) hx hb hr hlocks hK hS ((if_neg c_1).trans ((if_pos c_2).trans rfl)) hP hD rfl dX10_ministry_27
    · refine lv_iload_n hx hb dX10_ministry_9 rfl (lv_at hl 2 rfl) ?_
      refine lv_bipush (v := 99) hx hb dX10_ministry_10 (by decide) ?_
      refine lv_icmp_gt (tgt := 25) hx hb dX10_ministry_12 (by decide) (fun c_3 => ?_) (fun c_3 => ?_)
      · refine lv_ldc (v := (-1000001)) hx hb hown k71 dX10_ministry_25 ?_
        rw [hQm]
        exact mx_iret (u0 := sX10_ministry a b d mv2 g_landed) (rv := (fun u => some (.int u.1))) (w1 := (fun u => landW Z2 cK f2 kv2 u.2 ++ (pigW B S U Q V K Z2 Z3 g_landed g_fault g_find ++ R))) (u := ((-1000001), mv2)) hx hb hr hlocks hK hS ((if_neg c_1).trans ((if_neg c_2).trans ((if_pos c_3).trans rfl))) hP hD rfl dX10_ministry_27
      · refine lv_iload_n hx hb dX10_ministry_15 rfl (lv_at hl 3 rfl) ?_
        refine lv_if_lt (tgt := 25) hx hb dX10_ministry_16 (by decide) (fun c_4 => ?_) (fun c_4 => ?_)
        · refine lv_ldc (v := (-1000001)) hx hb hown k71 dX10_ministry_25 ?_
          rw [hQm]
          exact mx_iret (u0 := sX10_ministry a b d mv2 g_landed) (rv := (fun u => some (.int u.1))) (w1 := (fun u => landW Z2 cK f2 kv2 u.2 ++ (pigW B S U Q V K Z2 Z3 g_landed g_fault g_find ++ R))) (u := ((-1000001), mv2)) hx hb hr hlocks hK hS ((if_neg c_1).trans ((if_neg c_2).trans ((if_neg c_3).trans ((if_pos c_4).trans rfl)))) hP hD rfl dX10_ministry_27
        · refine lv_iload_n hx hb dX10_ministry_19 rfl (lv_at hl 3 rfl) ?_
          refine lv_bipush (v := 99) hx hb dX10_ministry_20 (by decide) ?_
          refine lv_icmp_le (tgt := 28) hx hb dX10_ministry_22 (by decide) (fun c_5 => ?_) (fun c_5 => ?_)
          · refine lv_aload_n hx hb dX10_ministry_28 rfl (lv_at hl 0 rfl) ?_
            refine va_get (D := D) (ci := 8) (v := .int g_landed) (C := RX10) (T := TX10) (N := 10) hx hb hts iX10 hown hK hP 8 rfl rfl 7 (by decide) k55 (fun _ h9 => h9) rfl dX10_ministry_29 ?_
            refine lv_if_ne (tgt := 38) hx hb dX10_ministry_32 (by decide) (fun c_6 => ?_) (fun c_6 => ?_)
            · refine lv_aload_n hx hb dX10_ministry_38 rfl (lv_at hl 0 rfl) ?_
              refine va_get (D := D) (ci := 8) (v := .ref (Z2 0)) (C := RX10) (T := TX10) (N := 10) hx hb hts iX10 hown hK hP 8 rfl rfl 5 (by decide) k48 (fun _ h9 => h9) rfl dX10_ministry_39 ?_
              refine va_get (D := D) (ci := 2) (v := .ref (Z2 2)) (C := RX2) (T := TX2) (N := 12) hx hb hts iX2 hown hK hP 5 rfl rfl 1 (by decide) k169 (fun _ h9 => h9) rfl dX10_ministry_42 ?_
              refine lv_iload_n hx hb dX10_ministry_45 rfl (lv_at hl 1 rfl) ?_
              refine lv_iload_n hx hb dX10_ministry_46 rfl (lv_at hl 2 rfl) ?_
              refine lv_iload_n hx hb dX10_ministry_47 rfl (lv_at hl 3 rfl) ?_
              refine mx_callV (As := [.int a, .int b, .int d]) (rest := []) ⟨hx, hb, hml, hown, hts⟩ (mtX3_order l D cI cB cK cS (landW Z2 cK f2 kv2 mv2 ++ (pigW B S U Q V K Z2 Z3 g_landed g_fault g_find ++ R)) (Z2 2) 7 mv2 a b d rfl) (cwV 3 hts gX10_ministry_X3_order rfl rfl rfl (by decide +kernel) ⟨Nat.le_of_ble_eq_true rfl, Nat.le_of_ble_eq_true rfl⟩) pF0_ok trivial hK hP hD hS hA 7 rfl rfl rfl rfl hl.1 rfl (Nat.le_of_ble_eq_true rfl) dX10_ministry_48 ⟨Nat.le_refl _, Nat.le_refl _⟩ (fun u_7 H locs eu_7 hP hD hS => ?_)
              refine W.eq (g2 := F0 m 51 ls []) rfl ?_
              have hP : va_P D vwCl (landW Z2 cK f2 kv2 u_7 ++ (pigW B S U Q V K Z2 Z3 g_landed g_fault g_find ++ R)) H := hP
              have hD : va_D A (landW Z2 cK f2 kv2 u_7 ++ (pigW B S U Q V K Z2 Z3 g_landed g_fault g_find ++ R)) := hD
              refine lv_iconst (v := 1) hx hb dX10_ministry_51 (by decide) ?_
              rw [hQm]
              exact mx_iret (u0 := sX10_ministry a b d mv2 g_landed) (rv := (fun u => some (.int u.1))) (w1 := (fun u => landW Z2 cK f2 kv2 u.2 ++ (pigW B S U Q V K Z2 Z3 g_landed g_fault g_find ++ R))) (u := (1, u_7)) hx hb hr hlocks hK hS ((if_neg c_1).trans ((if_neg c_2).trans ((if_neg c_3).trans ((if_neg c_4).trans ((if_pos c_5).trans ((if_neg c_6).trans (lt_eq eu_7 rfl))))))) hP hD rfl dX10_ministry_52
            · refine lv_ldc (v := (-1000002)) hx hb hown k165 dX10_ministry_35 ?_
              rw [hQm]
              exact mx_iret (u0 := sX10_ministry a b d mv2 g_landed) (rv := (fun u => some (.int u.1))) (w1 := (fun u => landW Z2 cK f2 kv2 u.2 ++ (pigW B S U Q V K Z2 Z3 g_landed g_fault g_find ++ R))) (u := ((-1000002), mv2)) hx hb hr hlocks hK hS ((if_neg c_1).trans ((if_neg c_2).trans ((if_neg c_3).trans ((if_neg c_4).trans ((if_pos c_5).trans ((if_pos c_6).trans rfl)))))) hP hD rfl dX10_ministry_37
          · refine lv_ldc (v := (-1000001)) hx hb hown k71 dX10_ministry_25 ?_
            rw [hQm]
            exact mx_iret (u0 := sX10_ministry a b d mv2 g_landed) (rv := (fun u => some (.int u.1))) (w1 := (fun u => landW Z2 cK f2 kv2 u.2 ++ (pigW B S U Q V K Z2 Z3 g_landed g_fault g_find ++ R))) (u := ((-1000001), mv2)) hx hb hr hlocks hK hS ((if_neg c_1).trans ((if_neg c_2).trans ((if_neg c_3).trans ((if_neg c_4).trans ((if_neg c_5).trans rfl))))) hP hD rfl dX10_ministry_27

def lX10_years_26 (nn : Int32) : Nat → Int32 → (Nat → Int32) → (Nat → Nat → Int32) → (Nat → Int32) → Int32 × (Nat → Int32) × (Nat → Nat → Int32) × (Nat → Int32)
  | 0, x2_26, f_26, kv_26, mv_26 => (x2_26, f_26, kv_26, mv_26)
  | n + 1, x2_26, f_26, kv_26, mv_26 => if nn ≤ x2_26 then ((x2_26, f_26, kv_26, mv_26)) else (lt (sX2_liveYear f_26 kv_26 mv_26) (fun u_5 : Int32 × (Nat → Int32) × (Nat → Nat → Int32) × (Nat → Int32) => lt (x2_26 + 1) (fun x_6 : Int32 => lX10_years_26 nn n x_6 u_5.2.1 u_5.2.2.1 u_5.2.2.2)))

def sX10_years (nn : Int32) (f2 : Nat → Int32) (kv2 : Nat → Nat → Int32) (mv2 : Nat → Int32) (g_landed : Int32) : Int32 × (Nat → Int32) × (Nat → Nat → Int32) × (Nat → Int32) := if nn < 1 then (((-1000001), f2, kv2, mv2)) else (if nn ≤ 100 then (if g_landed = 0 then (((-1000002), f2, kv2, mv2)) else (lt (lX10_years_26 nn 101 0 f2 kv2 mv2) (fun u_7 : Int32 × (Nat → Int32) × (Nat → Nat → Int32) × (Nat → Int32) => ((u_7.2.1 6), u_7.2.1, u_7.2.2.1, u_7.2.2.2)))) else (((-1000001), f2, kv2, mv2)))
set_option maxHeartbeats 4000000 in
set_option maxRecDepth 100000 in
theorem mtX10_years (l : Launch) (D : va_G) (cI cB cK cS : ClassId) (B S U Q V K Z2 Z3 : Nat → Nat) (R : va_W) (f2 : Nat → Int32) (kv2 : Nat → Nat → Int32) (mv2 : Nat → Int32) (g_landed : Int32) (g_fault : Int32) (g_find : Int32) (nn : Int32) : MX l yX10_years wsX10_years (rmX 5) D (tyX cI cB cK cS) pF0 (landW Z2 cK f2 kv2 mv2 ++ (pigW B S U Q V K Z2 Z3 g_landed g_fault g_find ++ R)) [.ref (B 0), .int nn] (sX10_years nn f2 kv2 mv2 g_landed) (fun u => some (.int u.1)) (fun u => landW Z2 cK u.2.1 u.2.2.1 u.2.2.2 ++ (pigW B S U Q V K Z2 Z3 g_landed g_fault g_find ++ R)) := by
  refine mx_intro (cc := cX10_years) (maxL := 3) (ret := (some .int)) (by decide) rfl (Nat.le_of_ble_eq_true rfl) ?_
  intro p e s m below meth c A ls H locs Qm hQm hx hb hr hml hts hown hlocks hA hS hP hK hD hF hl
  have hown : s.vm.findClass RX10 = some m.cls := hown
  have hl : lv_has ls 3 [(0, .ref (B 0)), (1, .int nn)] := hl
  have k71 := hts (.constant RX10 71 (-1000001)) (by decide +kernel)
  have k55 := hts (.fieldLink RX10 55 "PigRounds" "landed" "Z") (by decide +kernel)
  have k48 := hts (.fieldLink RX10 48 "PigRounds" "land" "LPigRounds$Land;") (by decide +kernel)
  have k183 := hts (.fieldLink RX10 183 "PigRounds$Land" "a" "I") (by decide +kernel)
  have k165 := hts (.constant RX10 165 (-1000002)) (by decide +kernel)
  have iX10 : ∀ w ∈ u_ws RX10 TX10 10, w ∈ wsX10_years := by decide +kernel
  have iX2 : ∀ w ∈ u_ws RX2 TX2 12, w ∈ wsX10_years := by decide +kernel
  refine lv_iload_n hx hb dX10_years_0 rfl (lv_at hl 1 rfl) ?_
  refine lv_iconst (v := 1) hx hb dX10_years_1 (by decide) ?_
  refine lv_icmp_lt (tgt := 11) hx hb dX10_years_2 (by decide) (fun c_1 => ?_) (fun c_1 => ?_)
  · have d_1 := i_lt rfl (show (1 : Int32).toInt = 1 from by decide) c_1
    refine lv_ldc (v := (-1000001)) hx hb hown k71 dX10_years_11 ?_
    rw [hQm]
    exact mx_iret (u0 := sX10_years nn f2 kv2 mv2 g_landed) (rv := (fun u => some (.int u.1))) (w1 := (fun u => landW Z2 cK u.2.1 u.2.2.1 u.2.2.2 ++ (pigW B S U Q V K Z2 Z3 g_landed g_fault g_find ++ R))) (u := ((-1000001), f2, kv2, mv2)) hx hb hr hlocks hK hS ((if_pos c_1).trans rfl) hP hD rfl dX10_years_13
  · have d_1 := i_ltn rfl (show (1 : Int32).toInt = 1 from by decide) c_1
    refine lv_iload_n hx hb dX10_years_5 rfl (lv_at hl 1 rfl) ?_
    refine lv_bipush (v := 100) hx hb dX10_years_6 (by decide) ?_
    refine lv_icmp_le (tgt := 14) hx hb dX10_years_8 (by decide) (fun c_2 => ?_) (fun c_2 => ?_)
    · have d_2 := i_le rfl (show (100 : Int32).toInt = 100 from by decide) c_2
      refine lv_aload_n hx hb dX10_years_14 rfl (lv_at hl 0 rfl) ?_
      refine va_get (D := D) (ci := 8) (v := .int g_landed) (C := RX10) (T := TX10) (N := 10) hx hb hts iX10 hown hK hP 8 rfl rfl 7 (by decide) k55 (fun _ h9 => h9) rfl dX10_years_15 ?_
      refine lv_if_ne (tgt := 24) hx hb dX10_years_18 (by decide) (fun c_3 => ?_) (fun c_3 => ?_)
      · have d_3 := i_eqn rfl (show (0 : Int32).toInt = 0 from by decide) c_3
        refine lv_iconst (v := 0) hx hb dX10_years_24 (by decide) ?_
        refine lv_istore_n (lv' := [(2, .int 0), (0, .ref (B 0)), (1, .int nn)]) hx hb dX10_years_25 rfl hl (by decide) rfl (fun ls hl => ?_)
        have L_26 : ∀ (n : Nat) (x2_26 : Int32) (f_26 : Nat → Int32) (kv_26 : Nat → Nat → Int32) (mv_26 : Nat → Int32) (H : Heap) (locs : List Loc) (ls : Array Slot), 0 ≤ x2_26.toInt → x2_26.toInt ≤ 100 → (100 : Int) < x2_26.toInt + ((n : Nat) : Int) → va_P D vwCl (landW Z2 cK f_26 kv_26 mv_26 ++ (pigW B S U Q V K Z2 Z3 g_landed g_fault g_find ++ R)) H → va_D A (landW Z2 cK f_26 kv_26 mv_26 ++ (pigW B S U Q V K Z2 Z3 g_landed g_fault g_find ++ R)) → va_S A s.heap H locs → lv_has ls 3 [(2, .int x2_26), (0, .ref (B 0)), (1, .int nn)] → (∀ (u : Int32 × (Nat → Int32) × (Nat → Nat → Int32) × (Nat → Int32)) (H : Heap) (locs : List Loc) (ls : Array Slot), u = lX10_years_26 nn n x2_26 f_26 kv_26 mv_26 → va_P D vwCl (landW Z2 cK u.2.1 u.2.2.1 u.2.2.2 ++ (pigW B S U Q V K Z2 Z3 g_landed g_fault g_find ++ R)) H → va_D A (landW Z2 cK u.2.1 u.2.2.1 u.2.2.2 ++ (pigW B S U Q V K Z2 Z3 g_landed g_fault g_find ++ R)) → va_S A s.heap H locs → lv_has ls 3 [(0, .ref (B 0))] → W p l e (rmX 5) s m ([.ref (B 0), .int nn] : List Value).toArray below meth c H locs 0 0 Qm (F0 m 45 ls [])) → W p l e (rmX 5) s m ([.ref (B 0), .int nn] : List Value).toArray below meth c H locs 0 0 Qm (F0 m 26 ls []) := by
          intro n
          induction n with
          | zero =>
            intro x2_26 f_26 kv_26 mv_26 H locs ls iv_26_0 iv_26_1 iv_26_2 hP hD hS hl kont_26
            exfalso; omega
          | succ n ih_26 =>
            intro x2_26 f_26 kv_26 mv_26 H locs ls iv_26_0 iv_26_1 iv_26_2 hP hD hS hl kont_26
            refine lv_iload_n hx hb dX10_years_26 rfl (lv_at hl 0 rfl) ?_
            refine lv_iload_n hx hb dX10_years_27 rfl (lv_at hl 2 rfl) ?_
            refine lv_icmp_ge (tgt := 45) hx hb dX10_years_28 (by decide) (fun c_4 => ?_) (fun c_4 => ?_)
            · have d_4 := i_le rfl rfl c_4
              exact kont_26 (x2_26, f_26, kv_26, mv_26) H locs ls (show lX10_years_26 nn (n + 1) x2_26 f_26 kv_26 mv_26 = (x2_26, f_26, kv_26, mv_26) from ((if_pos c_4).trans rfl)).symm  hP hD hS (lv_sub hl [1] rfl)
            · have d_4 := i_len rfl rfl c_4
              refine lv_aload_n hx hb dX10_years_31 rfl (lv_at hl 1 rfl) ?_
              refine va_get (D := D) (ci := 8) (v := .ref (Z2 0)) (C := RX10) (T := TX10) (N := 10) hx hb hts iX10 hown hK hP 8 rfl rfl 5 (by decide) k48 (fun _ h9 => h9) rfl dX10_years_32 ?_
              refine mx_callV (As := []) (rest := []) ⟨hx, hb, hml, hown, hts⟩ (mtX2_liveYear l D cI cB cK cS Z2 (pigW B S U Q V K Z2 Z3 g_landed g_fault g_find ++ R) f_26 kv_26 mv_26) (cwV 0 hts gX10_years_X2_liveYear rfl rfl rfl (by decide +kernel) ⟨Nat.le_of_ble_eq_true rfl, Nat.le_of_ble_eq_true rfl⟩) pF0_ok trivial hK hP hD hS hA 5 rfl rfl rfl rfl hl.1 rfl (Nat.le_of_ble_eq_true rfl) dX10_years_35 ⟨Nat.le_refl _, Nat.le_refl _⟩ (fun u_5 H locs eu_5 hP hD hS => ?_)
              refine W.eq (g2 := F0 m 38 ls [.int u_5.1]) rfl ?_
              have hP : va_P D vwCl (landW Z2 cK u_5.2.1 u_5.2.2.1 u_5.2.2.2 ++ (pigW B S U Q V K Z2 Z3 g_landed g_fault g_find ++ R)) H := hP
              have hD : va_D A (landW Z2 cK u_5.2.1 u_5.2.2.1 u_5.2.2.2 ++ (pigW B S U Q V K Z2 Z3 g_landed g_fault g_find ++ R)) := hD
              refine lv_pop hx hb dX10_years_38 rfl ?_
              obtain ⟨x_6, ex_6⟩ : ∃ z : Int32, z = x2_26 + 1 := ⟨_, rfl⟩
              refine lv_iinc (v := x_6) (lv' := [(2, .int x_6), (0, .ref (B 0)), (1, .int nn)]) hx hb dX10_years_39 hl (k := 0) rfl (by rw [ex_6]; rfl) (by decide) rfl (fun ls hl => ?_)
              refine lv_goto (tgt := 26) hx hb dX10_years_42 (by decide) ?_
              try have tx_6 : x_6.toInt = x2_26.toInt + 1 := i_inc ex_6 (by decide) (by omega) (by omega)
              refine ih_26 x_6 u_5.2.1 u_5.2.2.1 u_5.2.2.2 H locs ls (by first | omega | assumption) (by first | omega | assumption) (by first | omega | assumption) hP hD hS (lv_sub hl [0, 1, 2] rfl) (fun u H locs ls eu  hP hD hS hl => ?_)
              exact kont_26 u H locs ls (eu.trans (show lX10_years_26 nn (n + 1) x2_26 f_26 kv_26 mv_26 = lX10_years_26 nn n x_6 u_5.2.1 u_5.2.2.1 u_5.2.2.2 from ((if_neg c_4).trans (lt_eq eu_5 (lt_eq ex_6 rfl)))).symm)  hP hD hS hl
        refine L_26 101 0 f2 kv2 mv2 H locs ls (by decide) (by decide) (by decide) hP hD hS (lv_sub hl [0, 1, 2] rfl) (fun u_7 H locs ls eu_7  hP hD hS hl => ?_)
        have hP : va_P D vwCl (landW Z2 cK u_7.2.1 u_7.2.2.1 u_7.2.2.2 ++ (pigW B S U Q V K Z2 Z3 g_landed g_fault g_find ++ R)) H := hP
        have hD : va_D A (landW Z2 cK u_7.2.1 u_7.2.2.1 u_7.2.2.2 ++ (pigW B S U Q V K Z2 Z3 g_landed g_fault g_find ++ R)) := hD
        refine lv_aload_n hx hb dX10_years_45 rfl (lv_at hl 0 rfl) ?_
        refine va_get (D := D) (ci := 8) (v := .ref (Z2 0)) (C := RX10) (T := TX10) (N := 10) hx hb hts iX10 hown hK hP 8 rfl rfl 5 (by decide) k48 (fun _ h9 => h9) rfl dX10_years_46 ?_
        refine va_get (D := D) (ci := 2) (v := .int (u_7.2.1 6)) (C := RX2) (T := TX2) (N := 12) hx hb hts iX2 hown hK hP 5 rfl rfl 6 (by decide) k183 (fun _ h9 => h9) rfl dX10_years_49 ?_
        rw [hQm]
        exact mx_iret (u0 := sX10_years nn f2 kv2 mv2 g_landed) (rv := (fun u => some (.int u.1))) (w1 := (fun u => landW Z2 cK u.2.1 u.2.2.1 u.2.2.2 ++ (pigW B S U Q V K Z2 Z3 g_landed g_fault g_find ++ R))) (u := ((u_7.2.1 6), u_7.2.1, u_7.2.2.1, u_7.2.2.2)) hx hb hr hlocks hK hS ((if_neg c_1).trans ((if_pos c_2).trans ((if_neg c_3).trans (lt_eq eu_7 rfl)))) hP hD rfl dX10_years_52
      · have d_3 := i_eq rfl (show (0 : Int32).toInt = 0 from by decide) c_3
        refine lv_ldc (v := (-1000002)) hx hb hown k165 dX10_years_21 ?_
        rw [hQm]
        exact mx_iret (u0 := sX10_years nn f2 kv2 mv2 g_landed) (rv := (fun u => some (.int u.1))) (w1 := (fun u => landW Z2 cK u.2.1 u.2.2.1 u.2.2.2 ++ (pigW B S U Q V K Z2 Z3 g_landed g_fault g_find ++ R))) (u := ((-1000002), f2, kv2, mv2)) hx hb hr hlocks hK hS ((if_neg c_1).trans ((if_pos c_2).trans ((if_pos c_3).trans rfl))) hP hD rfl dX10_years_23
    · have d_2 := i_len rfl (show (100 : Int32).toInt = 100 from by decide) c_2
      refine lv_ldc (v := (-1000001)) hx hb hown k71 dX10_years_11 ?_
      rw [hQm]
      exact mx_iret (u0 := sX10_years nn f2 kv2 mv2 g_landed) (rv := (fun u => some (.int u.1))) (w1 := (fun u => landW Z2 cK u.2.1 u.2.2.1 u.2.2.2 ++ (pigW B S U Q V K Z2 Z3 g_landed g_fault g_find ++ R))) (u := ((-1000001), f2, kv2, mv2)) hx hb hr hlocks hK hS ((if_neg c_1).trans ((if_neg c_2).trans rfl)) hP hD rfl dX10_years_13

def sX10_now (w : Int32) (f2 : Nat → Int32) (mv2 : Nat → Int32) (g_landed : Int32) : Int32 := if w < 0 then (((-1000001))) else (if w ≤ 6 then (if g_landed = 0 then (((-1000002))) else (if w = 0 then (((f2 6))) else (if w = 1 then (((f2 7))) else (if w = 2 then (((f2 8))) else (if w = 3 then (((f2 10))) else (if w = 4 then (((mv2 3))) else (if w = 5 then (((mv2 4))) else (((f2 11)))))))))) else (((-1000001))))
set_option maxHeartbeats 4000000 in
set_option maxRecDepth 100000 in
theorem mtX10_now (l : Launch) (D : va_G) (cI cB cK cS : ClassId) (B S U Q V K Z2 Z3 : Nat → Nat) (R : va_W) (f2 : Nat → Int32) (kv2 : Nat → Nat → Int32) (mv2 : Nat → Int32) (g_landed : Int32) (g_fault : Int32) (g_find : Int32) (w : Int32) : MX l yX10_now wsX10_now (rmX 1) D (tyX cI cB cK cS) pF0 (landW Z2 cK f2 kv2 mv2 ++ (pigW B S U Q V K Z2 Z3 g_landed g_fault g_find ++ R)) [.ref (B 0), .int w] (sX10_now w f2 mv2 g_landed) (fun u => some (.int u)) (fun _ => landW Z2 cK f2 kv2 mv2 ++ (pigW B S U Q V K Z2 Z3 g_landed g_fault g_find ++ R)) := by
  refine mx_intro (cc := cX10_now) (maxL := 2) (ret := (some .int)) (by decide) rfl (Nat.le_of_ble_eq_true rfl) ?_
  intro p e s m below meth c A ls H locs Qm hQm hx hb hr hml hts hown hlocks hA hS hP hK hD hF hl
  have hown : s.vm.findClass RX10 = some m.cls := hown
  have hl : lv_has ls 2 [(0, .ref (B 0)), (1, .int w)] := hl
  have k71 := hts (.constant RX10 71 (-1000001)) (by decide +kernel)
  have k55 := hts (.fieldLink RX10 55 "PigRounds" "landed" "Z") (by decide +kernel)
  have k48 := hts (.fieldLink RX10 48 "PigRounds" "land" "LPigRounds$Land;") (by decide +kernel)
  have k183 := hts (.fieldLink RX10 183 "PigRounds$Land" "a" "I") (by decide +kernel)
  have k186 := hts (.fieldLink RX10 186 "PigRounds$Land" "b" "I") (by decide +kernel)
  have k189 := hts (.fieldLink RX10 189 "PigRounds$Land" "c" "I") (by decide +kernel)
  have k192 := hts (.fieldLink RX10 192 "PigRounds$Land" "pigs" "I") (by decide +kernel)
  have k169 := hts (.fieldLink RX10 169 "PigRounds$Land" "ministry" "LPigRounds$Ministry;") (by decide +kernel)
  have k195 := hts (.fieldLink RX10 195 "PigRounds$Ministry" "stock" "I") (by decide +kernel)
  have k198 := hts (.fieldLink RX10 198 "PigRounds$Ministry" "cost" "I") (by decide +kernel)
  have k201 := hts (.fieldLink RX10 201 "PigRounds$Land" "year" "I") (by decide +kernel)
  have k165 := hts (.constant RX10 165 (-1000002)) (by decide +kernel)
  have iX10 : ∀ w ∈ u_ws RX10 TX10 10, w ∈ wsX10_now := by decide +kernel
  have iX2 : ∀ w ∈ u_ws RX2 TX2 12, w ∈ wsX10_now := by decide +kernel
  have iX3 : ∀ w ∈ u_ws RX3 TX3 5, w ∈ wsX10_now := by decide +kernel
  refine lv_iload_n hx hb dX10_now_0 rfl (lv_at hl 1 rfl) ?_
  refine lv_if_lt (tgt := 10) hx hb dX10_now_1 (by decide) (fun c_1 => ?_) (fun c_1 => ?_)
  · refine lv_ldc (v := (-1000001)) hx hb hown k71 dX10_now_10 ?_
    rw [hQm]
    exact mx_iret (u0 := sX10_now w f2 mv2 g_landed) (rv := (fun u => some (.int u))) (w1 := (fun _ => landW Z2 cK f2 kv2 mv2 ++ (pigW B S U Q V K Z2 Z3 g_landed g_fault g_find ++ R))) (u := ((-1000001))) hx hb hr hlocks hK hS ((if_pos c_1).trans rfl) hP hD rfl dX10_now_12
  · refine lv_iload_n hx hb dX10_now_4 rfl (lv_at hl 1 rfl) ?_
    refine lv_bipush (v := 6) hx hb dX10_now_5 (by decide) ?_
    refine lv_icmp_le (tgt := 13) hx hb dX10_now_7 (by decide) (fun c_2 => ?_) (fun c_2 => ?_)
    · refine lv_aload_n hx hb dX10_now_13 rfl (lv_at hl 0 rfl) ?_
      refine va_get (D := D) (ci := 8) (v := .int g_landed) (C := RX10) (T := TX10) (N := 10) hx hb hts iX10 hown hK hP 8 rfl rfl 7 (by decide) k55 (fun _ h9 => h9) rfl dX10_now_14 ?_
      refine lv_if_ne (tgt := 23) hx hb dX10_now_17 (by decide) (fun c_3 => ?_) (fun c_3 => ?_)
      · refine lv_iload_n hx hb dX10_now_23 rfl (lv_at hl 1 rfl) ?_
        rcases Classical.em (w = 0) with c_4 | c_4
        · refine lv_tableIn (tgt := 64) hx hb dX10_now_24 (by rw [c_4]; decide) (by rw [c_4]; decide) (by rw [c_4]; rfl) (by decide) ?_
          refine lv_aload_n hx hb dX10_now_64 rfl (lv_at hl 0 rfl) ?_
          refine va_get (D := D) (ci := 8) (v := .ref (Z2 0)) (C := RX10) (T := TX10) (N := 10) hx hb hts iX10 hown hK hP 8 rfl rfl 5 (by decide) k48 (fun _ h9 => h9) rfl dX10_now_65 ?_
          refine va_get (D := D) (ci := 2) (v := .int (f2 6)) (C := RX2) (T := TX2) (N := 12) hx hb hts iX2 hown hK hP 5 rfl rfl 6 (by decide) k183 (fun _ h9 => h9) rfl dX10_now_68 ?_
          rw [hQm]
          exact mx_iret (u0 := sX10_now w f2 mv2 g_landed) (rv := (fun u => some (.int u))) (w1 := (fun _ => landW Z2 cK f2 kv2 mv2 ++ (pigW B S U Q V K Z2 Z3 g_landed g_fault g_find ++ R))) (u := ((f2 6))) hx hb hr hlocks hK hS ((if_neg c_1).trans ((if_pos c_2).trans ((if_neg c_3).trans ((if_pos c_4).trans rfl)))) hP hD rfl dX10_now_71
        · rcases Classical.em (w = 1) with c_5 | c_5
          · refine lv_tableIn (tgt := 72) hx hb dX10_now_24 (by rw [c_5]; decide) (by rw [c_5]; decide) (by rw [c_5]; rfl) (by decide) ?_
            refine lv_aload_n hx hb dX10_now_72 rfl (lv_at hl 0 rfl) ?_
            refine va_get (D := D) (ci := 8) (v := .ref (Z2 0)) (C := RX10) (T := TX10) (N := 10) hx hb hts iX10 hown hK hP 8 rfl rfl 5 (by decide) k48 (fun _ h9 => h9) rfl dX10_now_73 ?_
            refine va_get (D := D) (ci := 2) (v := .int (f2 7)) (C := RX2) (T := TX2) (N := 12) hx hb hts iX2 hown hK hP 5 rfl rfl 7 (by decide) k186 (fun _ h9 => h9) rfl dX10_now_76 ?_
            rw [hQm]
            exact mx_iret (u0 := sX10_now w f2 mv2 g_landed) (rv := (fun u => some (.int u))) (w1 := (fun _ => landW Z2 cK f2 kv2 mv2 ++ (pigW B S U Q V K Z2 Z3 g_landed g_fault g_find ++ R))) (u := ((f2 7))) hx hb hr hlocks hK hS ((if_neg c_1).trans ((if_pos c_2).trans ((if_neg c_3).trans ((if_neg c_4).trans ((if_pos c_5).trans rfl))))) hP hD rfl dX10_now_79
          · rcases Classical.em (w = 2) with c_6 | c_6
            · refine lv_tableIn (tgt := 80) hx hb dX10_now_24 (by rw [c_6]; decide) (by rw [c_6]; decide) (by rw [c_6]; rfl) (by decide) ?_
              refine lv_aload_n hx hb dX10_now_80 rfl (lv_at hl 0 rfl) ?_
              refine va_get (D := D) (ci := 8) (v := .ref (Z2 0)) (C := RX10) (T := TX10) (N := 10) hx hb hts iX10 hown hK hP 8 rfl rfl 5 (by decide) k48 (fun _ h9 => h9) rfl dX10_now_81 ?_
              refine va_get (D := D) (ci := 2) (v := .int (f2 8)) (C := RX2) (T := TX2) (N := 12) hx hb hts iX2 hown hK hP 5 rfl rfl 8 (by decide) k189 (fun _ h9 => h9) rfl dX10_now_84 ?_
              rw [hQm]
              exact mx_iret (u0 := sX10_now w f2 mv2 g_landed) (rv := (fun u => some (.int u))) (w1 := (fun _ => landW Z2 cK f2 kv2 mv2 ++ (pigW B S U Q V K Z2 Z3 g_landed g_fault g_find ++ R))) (u := ((f2 8))) hx hb hr hlocks hK hS ((if_neg c_1).trans ((if_pos c_2).trans ((if_neg c_3).trans ((if_neg c_4).trans ((if_neg c_5).trans ((if_pos c_6).trans rfl)))))) hP hD rfl dX10_now_87
            · rcases Classical.em (w = 3) with c_7 | c_7
              · refine lv_tableIn (tgt := 88) hx hb dX10_now_24 (by rw [c_7]; decide) (by rw [c_7]; decide) (by rw [c_7]; rfl) (by decide) ?_
                refine lv_aload_n hx hb dX10_now_88 rfl (lv_at hl 0 rfl) ?_
                refine va_get (D := D) (ci := 8) (v := .ref (Z2 0)) (C := RX10) (T := TX10) (N := 10) hx hb hts iX10 hown hK hP 8 rfl rfl 5 (by decide) k48 (fun _ h9 => h9) rfl dX10_now_89 ?_
                refine va_get (D := D) (ci := 2) (v := .int (f2 10)) (C := RX2) (T := TX2) (N := 12) hx hb hts iX2 hown hK hP 5 rfl rfl 10 (by decide) k192 (fun _ h9 => h9) rfl dX10_now_92 ?_
                rw [hQm]
                exact mx_iret (u0 := sX10_now w f2 mv2 g_landed) (rv := (fun u => some (.int u))) (w1 := (fun _ => landW Z2 cK f2 kv2 mv2 ++ (pigW B S U Q V K Z2 Z3 g_landed g_fault g_find ++ R))) (u := ((f2 10))) hx hb hr hlocks hK hS ((if_neg c_1).trans ((if_pos c_2).trans ((if_neg c_3).trans ((if_neg c_4).trans ((if_neg c_5).trans ((if_neg c_6).trans ((if_pos c_7).trans rfl))))))) hP hD rfl dX10_now_95
              · rcases Classical.em (w = 4) with c_8 | c_8
                · refine lv_tableIn (tgt := 96) hx hb dX10_now_24 (by rw [c_8]; decide) (by rw [c_8]; decide) (by rw [c_8]; rfl) (by decide) ?_
                  refine lv_aload_n hx hb dX10_now_96 rfl (lv_at hl 0 rfl) ?_
                  refine va_get (D := D) (ci := 8) (v := .ref (Z2 0)) (C := RX10) (T := TX10) (N := 10) hx hb hts iX10 hown hK hP 8 rfl rfl 5 (by decide) k48 (fun _ h9 => h9) rfl dX10_now_97 ?_
                  refine va_get (D := D) (ci := 2) (v := .ref (Z2 2)) (C := RX2) (T := TX2) (N := 12) hx hb hts iX2 hown hK hP 5 rfl rfl 1 (by decide) k169 (fun _ h9 => h9) rfl dX10_now_100 ?_
                  refine va_get (D := D) (ci := 3) (v := .int (mv2 3)) (C := RX3) (T := TX3) (N := 5) hx hb hts iX3 hown hK hP 7 rfl rfl 3 (by decide) k195 (fun _ h9 => h9) rfl dX10_now_103 ?_
                  rw [hQm]
                  exact mx_iret (u0 := sX10_now w f2 mv2 g_landed) (rv := (fun u => some (.int u))) (w1 := (fun _ => landW Z2 cK f2 kv2 mv2 ++ (pigW B S U Q V K Z2 Z3 g_landed g_fault g_find ++ R))) (u := ((mv2 3))) hx hb hr hlocks hK hS ((if_neg c_1).trans ((if_pos c_2).trans ((if_neg c_3).trans ((if_neg c_4).trans ((if_neg c_5).trans ((if_neg c_6).trans ((if_neg c_7).trans ((if_pos c_8).trans rfl)))))))) hP hD rfl dX10_now_106
                · rcases Classical.em (w = 5) with c_9 | c_9
                  · refine lv_tableIn (tgt := 107) hx hb dX10_now_24 (by rw [c_9]; decide) (by rw [c_9]; decide) (by rw [c_9]; rfl) (by decide) ?_
                    refine lv_aload_n hx hb dX10_now_107 rfl (lv_at hl 0 rfl) ?_
                    refine va_get (D := D) (ci := 8) (v := .ref (Z2 0)) (C := RX10) (T := TX10) (N := 10) hx hb hts iX10 hown hK hP 8 rfl rfl 5 (by decide) k48 (fun _ h9 => h9) rfl dX10_now_108 ?_
                    refine va_get (D := D) (ci := 2) (v := .ref (Z2 2)) (C := RX2) (T := TX2) (N := 12) hx hb hts iX2 hown hK hP 5 rfl rfl 1 (by decide) k169 (fun _ h9 => h9) rfl dX10_now_111 ?_
                    refine va_get (D := D) (ci := 3) (v := .int (mv2 4)) (C := RX3) (T := TX3) (N := 5) hx hb hts iX3 hown hK hP 7 rfl rfl 4 (by decide) k198 (fun _ h9 => h9) rfl dX10_now_114 ?_
                    rw [hQm]
                    exact mx_iret (u0 := sX10_now w f2 mv2 g_landed) (rv := (fun u => some (.int u))) (w1 := (fun _ => landW Z2 cK f2 kv2 mv2 ++ (pigW B S U Q V K Z2 Z3 g_landed g_fault g_find ++ R))) (u := ((mv2 4))) hx hb hr hlocks hK hS ((if_neg c_1).trans ((if_pos c_2).trans ((if_neg c_3).trans ((if_neg c_4).trans ((if_neg c_5).trans ((if_neg c_6).trans ((if_neg c_7).trans ((if_neg c_8).trans ((if_pos c_9).trans rfl))))))))) hP hD rfl dX10_now_117
                  · refine lv_tableOut (tgt := 118) hx hb dX10_now_24 (by have := lv_neT c_4 (show (0 : Int32).toInt = 0 from by decide); have := lv_neT c_5 (show (1 : Int32).toInt = 1 from by decide); have := lv_neT c_6 (show (2 : Int32).toInt = 2 from by decide); have := lv_neT c_7 (show (3 : Int32).toInt = 3 from by decide); have := lv_neT c_8 (show (4 : Int32).toInt = 4 from by decide); have := lv_neT c_9 (show (5 : Int32).toInt = 5 from by decide); omega) (by decide) ?_
                    refine lv_aload_n hx hb dX10_now_118 rfl (lv_at hl 0 rfl) ?_
                    refine va_get (D := D) (ci := 8) (v := .ref (Z2 0)) (C := RX10) (T := TX10) (N := 10) hx hb hts iX10 hown hK hP 8 rfl rfl 5 (by decide) k48 (fun _ h9 => h9) rfl dX10_now_119 ?_
                    refine va_get (D := D) (ci := 2) (v := .int (f2 11)) (C := RX2) (T := TX2) (N := 12) hx hb hts iX2 hown hK hP 5 rfl rfl 11 (by decide) k201 (fun _ h9 => h9) rfl dX10_now_122 ?_
                    rw [hQm]
                    exact mx_iret (u0 := sX10_now w f2 mv2 g_landed) (rv := (fun u => some (.int u))) (w1 := (fun _ => landW Z2 cK f2 kv2 mv2 ++ (pigW B S U Q V K Z2 Z3 g_landed g_fault g_find ++ R))) (u := ((f2 11))) hx hb hr hlocks hK hS ((if_neg c_1).trans ((if_pos c_2).trans ((if_neg c_3).trans ((if_neg c_4).trans ((if_neg c_5).trans ((if_neg c_6).trans ((if_neg c_7).trans ((if_neg c_8).trans ((if_neg c_9).trans rfl))))))))) hP hD rfl dX10_now_125
      · refine lv_ldc (v := (-1000002)) hx hb hown k165 dX10_now_20 ?_
        rw [hQm]
        exact mx_iret (u0 := sX10_now w f2 mv2 g_landed) (rv := (fun u => some (.int u))) (w1 := (fun _ => landW Z2 cK f2 kv2 mv2 ++ (pigW B S U Q V K Z2 Z3 g_landed g_fault g_find ++ R))) (u := ((-1000002))) hx hb hr hlocks hK hS ((if_neg c_1).trans ((if_pos c_2).trans ((if_pos c_3).trans rfl))) hP hD rfl dX10_now_22
    · refine lv_ldc (v := (-1000001)) hx hb hown k71 dX10_now_10 ?_
      rw [hQm]
      exact mx_iret (u0 := sX10_now w f2 mv2 g_landed) (rv := (fun u => some (.int u))) (w1 := (fun _ => landW Z2 cK f2 kv2 mv2 ++ (pigW B S U Q V K Z2 Z3 g_landed g_fault g_find ++ R))) (u := ((-1000001))) hx hb hr hlocks hK hS ((if_neg c_1).trans ((if_neg c_2).trans rfl)) hP hD rfl dX10_now_12

def sX10_dies (f2 : Nat → Int32) (kv2 : Nat → Nat → Int32) (g_landed : Int32) : Int32 := if g_landed = 0 then (((-1000002))) else (lt (sX2_outlookAt (f2 4) f2 kv2) (fun u_2 : Int32 => (u_2)))
set_option maxHeartbeats 4000000 in
set_option maxRecDepth 100000 in
theorem mtX10_dies (l : Launch) (D : va_G) (cI cB cK cS : ClassId) (B S U Q V K Z2 Z3 : Nat → Nat) (R : va_W) (f2 : Nat → Int32) (kv2 : Nat → Nat → Int32) (mv2 : Nat → Int32) (g_landed : Int32) (g_fault : Int32) (g_find : Int32) : MX l yX10_dies wsX10_dies (rmX 4) D (tyX cI cB cK cS) pF0 (landW Z2 cK f2 kv2 mv2 ++ (pigW B S U Q V K Z2 Z3 g_landed g_fault g_find ++ R)) [.ref (B 0)] (sX10_dies f2 kv2 g_landed) (fun u => some (.int u)) (fun _ => landW Z2 cK f2 kv2 mv2 ++ (pigW B S U Q V K Z2 Z3 g_landed g_fault g_find ++ R)) := by
  refine mx_intro (cc := cX10_dies) (maxL := 1) (ret := (some .int)) (by decide) rfl (Nat.le_of_ble_eq_true rfl) ?_
  intro p e s m below meth c A ls H locs Qm hQm hx hb hr hml hts hown hlocks hA hS hP hK hD hF hl
  have hown : s.vm.findClass RX10 = some m.cls := hown
  have hl : lv_has ls 1 [(0, .ref (B 0))] := hl
  have k55 := hts (.fieldLink RX10 55 "PigRounds" "landed" "Z") (by decide +kernel)
  have k165 := hts (.constant RX10 165 (-1000002)) (by decide +kernel)
  have k48 := hts (.fieldLink RX10 48 "PigRounds" "land" "LPigRounds$Land;") (by decide +kernel)
  have k204 := hts (.fieldLink RX10 204 "PigRounds$Land" "depth" "I") (by decide +kernel)
  have iX10 : ∀ w ∈ u_ws RX10 TX10 10, w ∈ wsX10_dies := by decide +kernel
  have iX2 : ∀ w ∈ u_ws RX2 TX2 12, w ∈ wsX10_dies := by decide +kernel
  refine lv_aload_n hx hb dX10_dies_0 rfl (lv_at hl 0 rfl) ?_
  refine va_get (D := D) (ci := 8) (v := .int g_landed) (C := RX10) (T := TX10) (N := 10) hx hb hts iX10 hown hK hP 8 rfl rfl 7 (by decide) k55 (fun _ h9 => h9) rfl dX10_dies_1 ?_
  refine lv_if_eq (tgt := 24) hx hb dX10_dies_4 (by decide) (fun c_1 => ?_) (fun c_1 => ?_)
  · refine lv_ldc (v := (-1000002)) hx hb hown k165 dX10_dies_24 ?_
    rw [hQm]
    exact mx_iret (u0 := sX10_dies f2 kv2 g_landed) (rv := (fun u => some (.int u))) (w1 := (fun _ => landW Z2 cK f2 kv2 mv2 ++ (pigW B S U Q V K Z2 Z3 g_landed g_fault g_find ++ R))) (u := ((-1000002))) hx hb hr hlocks hK hS ((if_pos c_1).trans rfl) hP hD rfl dX10_dies_26
  · refine lv_aload_n hx hb dX10_dies_7 rfl (lv_at hl 0 rfl) ?_
    refine va_get (D := D) (ci := 8) (v := .ref (Z2 0)) (C := RX10) (T := TX10) (N := 10) hx hb hts iX10 hown hK hP 8 rfl rfl 5 (by decide) k48 (fun _ h9 => h9) rfl dX10_dies_8 ?_
    refine lv_aload_n hx hb dX10_dies_11 rfl (lv_at hl 0 rfl) ?_
    refine va_get (D := D) (ci := 8) (v := .ref (Z2 0)) (C := RX10) (T := TX10) (N := 10) hx hb hts iX10 hown hK hP 8 rfl rfl 5 (by decide) k48 (fun _ h9 => h9) rfl dX10_dies_12 ?_
    refine va_get (D := D) (ci := 2) (v := .int (f2 4)) (C := RX2) (T := TX2) (N := 12) hx hb hts iX2 hown hK hP 5 rfl rfl 4 (by decide) k204 (fun _ h9 => h9) rfl dX10_dies_15 ?_
    refine mx_callV (As := [.int (f2 4)]) (rest := []) ⟨hx, hb, hml, hown, hts⟩ (mtX2_outlookAt l D cI cB cK cS Z2 (pigW B S U Q V K Z2 Z3 g_landed g_fault g_find ++ R) f2 kv2 mv2 (f2 4)) (cwV 1 hts gX10_dies_X2_outlookAt rfl rfl rfl (by decide +kernel) ⟨Nat.le_of_ble_eq_true rfl, Nat.le_of_ble_eq_true rfl⟩) pF0_ok trivial hK hP hD hS hA 5 rfl rfl rfl rfl hl.1 rfl (Nat.le_of_ble_eq_true rfl) dX10_dies_18 ⟨Nat.le_refl _, Nat.le_refl _⟩ (fun u_2 H locs eu_2 hP hD hS => ?_)
    refine W.eq (g2 := F0 m 21 ls [.int u_2]) rfl ?_
    have hP : va_P D vwCl (landW Z2 cK f2 kv2 mv2 ++ (pigW B S U Q V K Z2 Z3 g_landed g_fault g_find ++ R)) H := hP
    have hD : va_D A (landW Z2 cK f2 kv2 mv2 ++ (pigW B S U Q V K Z2 Z3 g_landed g_fault g_find ++ R)) := hD
    refine lv_goto (tgt := 26) hx hb dX10_dies_21 (by decide) ?_
    rw [hQm]
    exact mx_iret (u0 := sX10_dies f2 kv2 g_landed) (rv := (fun u => some (.int u))) (w1 := (fun _ => landW Z2 cK f2 kv2 mv2 ++ (pigW B S U Q V K Z2 Z3 g_landed g_fault g_find ++ R))) (u := (u_2)) hx hb hr hlocks hK hS ((if_neg c_1).trans (lt_eq eu_2 rfl)) hP hD rfl dX10_dies_26

def lX10_steep_12 (f2 : Nat → Int32) (kv2 : Nat → Nat → Int32) : Nat → Int32 → Int32
  | 0, x1_12 => (0)
  | n + 1, x1_12 => if 20 < x1_12 then (((-1000000))) else (lt (sX2_outlookAt x1_12 f2 kv2) (fun u_3 : Int32 => if u_3 = 0 then ((x1_12)) else (lt (x1_12 + 1) (fun x_5 : Int32 => lX10_steep_12 f2 kv2 n x_5))))

def sX10_steep (f2 : Nat → Int32) (kv2 : Nat → Nat → Int32) (g_landed : Int32) : Int32 := if g_landed = 0 then (((-1000002))) else (lX10_steep_12 f2 kv2 22 1)
set_option maxHeartbeats 4000000 in
set_option maxRecDepth 100000 in
theorem mtX10_steep (l : Launch) (D : va_G) (cI cB cK cS : ClassId) (B S U Q V K Z2 Z3 : Nat → Nat) (R : va_W) (f2 : Nat → Int32) (kv2 : Nat → Nat → Int32) (mv2 : Nat → Int32) (g_landed : Int32) (g_fault : Int32) (g_find : Int32) : MX l yX10_steep wsX10_steep (rmX 4) D (tyX cI cB cK cS) pF0 (landW Z2 cK f2 kv2 mv2 ++ (pigW B S U Q V K Z2 Z3 g_landed g_fault g_find ++ R)) [.ref (B 0)] (sX10_steep f2 kv2 g_landed) (fun u => some (.int u)) (fun _ => landW Z2 cK f2 kv2 mv2 ++ (pigW B S U Q V K Z2 Z3 g_landed g_fault g_find ++ R)) := by
  refine mx_intro (cc := cX10_steep) (maxL := 2) (ret := (some .int)) (by decide) rfl (Nat.le_of_ble_eq_true rfl) ?_
  intro p e s m below meth c A ls H locs Qm hQm hx hb hr hml hts hown hlocks hA hS hP hK hD hF hl
  have hown : s.vm.findClass RX10 = some m.cls := hown
  have hl : lv_has ls 2 [(0, .ref (B 0))] := hl
  have k55 := hts (.fieldLink RX10 55 "PigRounds" "landed" "Z") (by decide +kernel)
  have k210 := hts (.constant RX10 210 (-1000000)) (by decide +kernel)
  have k48 := hts (.fieldLink RX10 48 "PigRounds" "land" "LPigRounds$Land;") (by decide +kernel)
  have k165 := hts (.constant RX10 165 (-1000002)) (by decide +kernel)
  have iX10 : ∀ w ∈ u_ws RX10 TX10 10, w ∈ wsX10_steep := by decide +kernel
  refine lv_aload_n hx hb dX10_steep_0 rfl (lv_at hl 0 rfl) ?_
  refine va_get (D := D) (ci := 8) (v := .int g_landed) (C := RX10) (T := TX10) (N := 10) hx hb hts iX10 hown hK hP 8 rfl rfl 7 (by decide) k55 (fun _ h9 => h9) rfl dX10_steep_1 ?_
  refine lv_if_ne (tgt := 10) hx hb dX10_steep_4 (by decide) (fun c_1 => ?_) (fun c_1 => ?_)
  · have d_1 := i_eqn rfl (show (0 : Int32).toInt = 0 from by decide) c_1
    refine lv_iconst (v := 1) hx hb dX10_steep_10 (by decide) ?_
    refine lv_istore_n (lv' := [(1, .int 1), (0, .ref (B 0))]) hx hb dX10_steep_11 rfl hl (by decide) rfl (fun ls hl => ?_)
    have L_12 : ∀ (n : Nat) (x1_12 : Int32) (H : Heap) (locs : List Loc) (ls : Array Slot), 0 ≤ x1_12.toInt → x1_12.toInt ≤ 21 → (21 : Int) < x1_12.toInt + ((n : Nat) : Int) → (sX10_steep f2 kv2 g_landed = lX10_steep_12 f2 kv2 n x1_12) → va_P D vwCl (landW Z2 cK f2 kv2 mv2 ++ (pigW B S U Q V K Z2 Z3 g_landed g_fault g_find ++ R)) H → va_D A (landW Z2 cK f2 kv2 mv2 ++ (pigW B S U Q V K Z2 Z3 g_landed g_fault g_find ++ R)) → va_S A s.heap H locs → lv_has ls 2 [(1, .int x1_12), (0, .ref (B 0))] → W p l e (rmX 4) s m ([.ref (B 0)] : List Value).toArray below meth c H locs 0 0 Qm (F0 m 12 ls []) := by
      intro n
      induction n with
      | zero =>
        intro x1_12 H locs ls iv_12_0 iv_12_1 iv_12_2 hT_12 hP hD hS hl
        exfalso; omega
      | succ n ih_12 =>
        intro x1_12 H locs ls iv_12_0 iv_12_1 iv_12_2 hT_12 hP hD hS hl
        refine lv_iload_n hx hb dX10_steep_12 rfl (lv_at hl 0 rfl) ?_
        refine lv_bipush (v := 20) hx hb dX10_steep_13 (by decide) ?_
        refine lv_icmp_gt (tgt := 37) hx hb dX10_steep_15 (by decide) (fun c_2 => ?_) (fun c_2 => ?_)
        · have d_2 := i_lt (show (20 : Int32).toInt = 20 from by decide) rfl c_2
          refine lv_ldc (v := (-1000000)) hx hb hown k210 dX10_steep_37 ?_
          rw [hQm]
          exact mx_iret (u0 := sX10_steep f2 kv2 g_landed) (rv := (fun u => some (.int u))) (w1 := (fun _ => landW Z2 cK f2 kv2 mv2 ++ (pigW B S U Q V K Z2 Z3 g_landed g_fault g_find ++ R))) (u := ((-1000000))) hx hb hr hlocks hK hS (hT_12.trans ((if_pos c_2).trans rfl)) hP hD rfl dX10_steep_39
        · have d_2 := i_ltn (show (20 : Int32).toInt = 20 from by decide) rfl c_2
          refine lv_aload_n hx hb dX10_steep_18 rfl (lv_at hl 1 rfl) ?_
          refine va_get (D := D) (ci := 8) (v := .ref (Z2 0)) (C := RX10) (T := TX10) (N := 10) hx hb hts iX10 hown hK hP 8 rfl rfl 5 (by decide) k48 (fun _ h9 => h9) rfl dX10_steep_19 ?_
          refine lv_iload_n hx hb dX10_steep_22 rfl (lv_at hl 0 rfl) ?_
          refine mx_callV (As := [.int x1_12]) (rest := []) ⟨hx, hb, hml, hown, hts⟩ (mtX2_outlookAt l D cI cB cK cS Z2 (pigW B S U Q V K Z2 Z3 g_landed g_fault g_find ++ R) f2 kv2 mv2 x1_12) (cwV 1 hts gX10_steep_X2_outlookAt rfl rfl rfl (by decide +kernel) ⟨Nat.le_of_ble_eq_true rfl, Nat.le_of_ble_eq_true rfl⟩) pF0_ok trivial hK hP hD hS hA 5 rfl rfl rfl rfl hl.1 rfl (Nat.le_of_ble_eq_true rfl) dX10_steep_23 ⟨Nat.le_refl _, Nat.le_refl _⟩ (fun u_3 H locs eu_3 hP hD hS => ?_)
          refine W.eq (g2 := F0 m 26 ls [.int u_3]) rfl ?_
          have hP : va_P D vwCl (landW Z2 cK f2 kv2 mv2 ++ (pigW B S U Q V K Z2 Z3 g_landed g_fault g_find ++ R)) H := hP
          have hD : va_D A (landW Z2 cK f2 kv2 mv2 ++ (pigW B S U Q V K Z2 Z3 g_landed g_fault g_find ++ R)) := hD
          refine lv_if_ne (tgt := 31) hx hb dX10_steep_26 (by decide) (fun c_4 => ?_) (fun c_4 => ?_)
          · have d_4 := i_eqn rfl (show (0 : Int32).toInt = 0 from by decide) c_4
            obtain ⟨x_5, ex_5⟩ : ∃ z : Int32, z = x1_12 + 1 := ⟨_, rfl⟩
            refine lv_iinc (v := x_5) (lv' := [(1, .int x_5), (0, .ref (B 0))]) hx hb dX10_steep_31 hl (k := 0) rfl (by rw [ex_5]; rfl) (by decide) rfl (fun ls hl => ?_)
            refine lv_goto (tgt := 12) hx hb dX10_steep_34 (by decide) ?_
            try have tx_5 : x_5.toInt = x1_12.toInt + 1 := i_inc ex_5 (by decide) (by omega) (by omega)
            exact ih_12 x_5 H locs ls (by first | omega | assumption) (by first | omega | assumption) (by first | omega | assumption) (hT_12.trans ((if_neg c_2).trans (lt_eq eu_3 ((if_neg c_4).trans (lt_eq ex_5 rfl))))) hP hD hS (lv_sub hl [0, 1] rfl)
          · have d_4 := i_eq rfl (show (0 : Int32).toInt = 0 from by decide) c_4
            refine lv_iload_n hx hb dX10_steep_29 rfl (lv_at hl 0 rfl) ?_
            rw [hQm]
            exact mx_iret (u0 := sX10_steep f2 kv2 g_landed) (rv := (fun u => some (.int u))) (w1 := (fun _ => landW Z2 cK f2 kv2 mv2 ++ (pigW B S U Q V K Z2 Z3 g_landed g_fault g_find ++ R))) (u := (x1_12)) hx hb hr hlocks hK hS (hT_12.trans ((if_neg c_2).trans (lt_eq eu_3 ((if_pos c_4).trans rfl)))) hP hD rfl dX10_steep_30
    exact L_12 22 1 H locs ls (by decide) (by decide) (by decide) ((if_neg c_1).trans rfl) hP hD hS (lv_sub hl [0, 1] rfl)
  · have d_1 := i_eq rfl (show (0 : Int32).toInt = 0 from by decide) c_1
    refine lv_ldc (v := (-1000002)) hx hb hown k165 dX10_steep_7 ?_
    rw [hQm]
    exact mx_iret (u0 := sX10_steep f2 kv2 g_landed) (rv := (fun u => some (.int u))) (w1 := (fun _ => landW Z2 cK f2 kv2 mv2 ++ (pigW B S U Q V K Z2 Z3 g_landed g_fault g_find ++ R))) (u := ((-1000002))) hx hb hr hlocks hK hS ((if_pos c_1).trans rfl) hP hD rfl dX10_steep_9

def sX10_kind (k : Int32) (f2 : Nat → Int32) (kv2 : Nat → Nat → Int32) : Int32 := lt (sX10_kindOf k f2) (fun u_1 : Option Nat => if u_1 = none then (((-1000001))) else (((kv2 (u_1.getD 0)) 0)))
set_option maxHeartbeats 4000000 in
set_option maxRecDepth 100000 in
theorem mtX10_kind (l : Launch) (D : va_G) (cI cB cK cS : ClassId) (B S U Q V K Z2 Z3 : Nat → Nat) (R : va_W) (f2 : Nat → Int32) (kv2 : Nat → Nat → Int32) (mv2 : Nat → Int32) (g_landed : Int32) (g_fault : Int32) (g_find : Int32) (k : Int32) : MX l yX10_kind wsX10_kind (rmX 3) D (tyX cI cB cK cS) pF0 (landW Z2 cK f2 kv2 mv2 ++ (pigW B S U Q V K Z2 Z3 g_landed g_fault g_find ++ R)) [.ref (B 0), .int k] (sX10_kind k f2 kv2) (fun u => some (.int u)) (fun _ => landW Z2 cK f2 kv2 mv2 ++ (pigW B S U Q V K Z2 Z3 g_landed g_fault g_find ++ R)) := by
  refine mx_intro (cc := cX10_kind) (maxL := 3) (ret := (some .int)) (by decide) rfl (Nat.le_of_ble_eq_true rfl) ?_
  intro p e s m below meth c A ls H locs Qm hQm hx hb hr hml hts hown hlocks hA hS hP hK hD hF hl
  have hown : s.vm.findClass RX10 = some m.cls := hown
  have hl : lv_has ls 3 [(0, .ref (B 0)), (1, .int k)] := hl
  have k71 := hts (.constant RX10 71 (-1000001)) (by decide +kernel)
  have k241 := hts (.fieldLink RX10 241 "PigRounds$Kind" "way" "I") (by decide +kernel)
  have iX1 : ∀ w ∈ u_ws RX1 TX1 9, w ∈ wsX10_kind := by decide +kernel
  refine lv_aload_n hx hb dX10_kind_0 rfl (lv_at hl 0 rfl) ?_
  refine lv_iload_n hx hb dX10_kind_1 rfl (lv_at hl 1 rfl) ?_
  refine mx_callV (As := [.int k]) (rest := []) ⟨hx, hb, hml, hown, hts⟩ (mtX10_kindOf l D cI cB cK cS B S U Q V K Z2 Z3 R f2 kv2 mv2 g_landed g_fault g_find k) (cwV 1 hts gX10_kind_X10_kindOf rfl rfl rfl (by decide +kernel) ⟨Nat.le_of_ble_eq_true rfl, Nat.le_of_ble_eq_true rfl⟩) pF0_ok trivial hK hP hD hS hA 8 rfl rfl rfl rfl hl.1 rfl (Nat.le_of_ble_eq_true rfl) dX10_kind_2 ⟨Nat.le_refl _, Nat.le_refl _⟩ (fun u_1 H locs eu_1 hP hD hS => ?_)
  have hP : va_P D vwCl (landW Z2 cK f2 kv2 mv2 ++ (pigW B S U Q V K Z2 Z3 g_landed g_fault g_find ++ R)) H := hP
  have hD : va_D A (landW Z2 cK f2 kv2 mv2 ++ (pigW B S U Q V K Z2 Z3 g_landed g_fault g_find ++ R)) := hD
  rcases Classical.em (u_1 = none) with c_2 | c_2
  · refine W.eq (g2 := F0 m 5 ls [.null]) (by rw [c_2]; rfl) ?_
    refine lv_astore_nN (lv' := [(2, .null), (0, .ref (B 0)), (1, .int k)]) hx hb dX10_kind_5 rfl hl (by decide) rfl (fun ls hl => ?_)
    refine lv_aload_nN hx hb dX10_kind_6 rfl (lv_at hl 0 rfl) ?_
    refine lv_ifnonnullN hx hb dX10_kind_7 ?_
    refine lv_ldc (v := (-1000001)) hx hb hown k71 dX10_kind_10 ?_
    refine lv_goto (tgt := 19) hx hb dX10_kind_12 (by decide) ?_
    rw [hQm]
    exact mx_iret (u0 := sX10_kind k f2 kv2) (rv := (fun u => some (.int u))) (w1 := (fun _ => landW Z2 cK f2 kv2 mv2 ++ (pigW B S U Q V K Z2 Z3 g_landed g_fault g_find ++ R))) (u := ((-1000001))) hx hb hr hlocks hK hS (lt_eq eu_1 ((if_pos c_2).trans rfl)) hP hD rfl dX10_kind_19
  · have hj_2 : u_1.getD 0 < 5 := sX10_kindOf_lt eu_1 c_2
    refine W.eq (g2 := F0 m 5 ls [.ref (Z2 (3 + (u_1.getD 0)))]) (by rw [show u_1 = some (u_1.getD 0) from o_some c_2]; rfl) ?_
    refine lv_astore_n (lv' := [(2, .ref (Z2 (3 + (u_1.getD 0)))), (0, .ref (B 0)), (1, .int k)]) hx hb dX10_kind_5 rfl hl (by decide) rfl (fun ls hl => ?_)
    refine lv_aload_n hx hb dX10_kind_6 rfl (lv_at hl 0 rfl) ?_
    refine lv_ifnonnull (tgt := 15) hx hb dX10_kind_7 (by decide) ?_
    refine lv_aload_n hx hb dX10_kind_15 rfl (lv_at hl 0 rfl) ?_
    refine va_get (D := D) (ci := 1) (v := .int ((kv2 (u_1.getD 0)) 0)) (C := RX1) (T := TX1) (N := 9) hx hb hts iX1 hown hK hP (u_1.getD 0) (kk_get hj_2) rfl 0 (by decide) k241 (fun _ h9 => h9) rfl dX10_kind_16 ?_
    rw [hQm]
    exact mx_iret (u0 := sX10_kind k f2 kv2) (rv := (fun u => some (.int u))) (w1 := (fun _ => landW Z2 cK f2 kv2 mv2 ++ (pigW B S U Q V K Z2 Z3 g_landed g_fault g_find ++ R))) (u := ((kv2 (u_1.getD 0)) 0)) hx hb hr hlocks hK hS (lt_eq eu_1 ((if_neg c_2).trans rfl)) hP hD rfl dX10_kind_19

def sX10_feed (v : Int64) (nn : Int32) (p_len : Int32) (p_bytes : Nat → Int32) : Int32 × (Int32) × (Nat → Int32) := if nn < 1 then (((-1000001), p_len, p_bytes)) else (if nn ≤ 8 then (lt (sX7_hasRoomFor nn p_len) (fun u_3 : Int32 => if u_3 = 0 then (((-1000003), p_len, p_bytes)) else (lt (sX7_append v nn p_len p_bytes) (fun u_5 : (Int32) × (Nat → Int32) => (u_5.1, u_5.1, u_5.2))))) else (((-1000001), p_len, p_bytes)))
set_option maxHeartbeats 4000000 in
set_option maxRecDepth 100000 in
theorem mtX10_feed (l : Launch) (D : va_G) (cI cB cK cS : ClassId) (B S U Q V K Z2 Z3 : Nat → Nat) (R : va_W) (p_len : Int32) (p_bytes : Nat → Int32) (g_landed : Int32) (g_fault : Int32) (g_find : Int32) (v : Int64) (nn : Int32) (hl0 : 0 ≤ p_len.toInt) (hl1 : p_len.toInt ≤ 400) : MX l yX10_feed wsX10_feed (rmX 2) D (tyX cI cB cK cS) pF0 (tpW U cB p_len p_bytes ++ (pigW B S U Q V K Z2 Z3 g_landed g_fault g_find ++ R)) [.ref (B 0), .long v, .int nn] (sX10_feed v nn p_len p_bytes) (fun u => some (.int u.1)) (fun u => tpW U cB u.2.1 u.2.2 ++ (pigW B S U Q V K Z2 Z3 g_landed g_fault g_find ++ R)) := by
  refine mx_intro (cc := cX10_feed) (maxL := 4) (ret := (some .int)) (by decide) rfl (Nat.le_of_ble_eq_true rfl) ?_
  intro p e s m below meth c A ls H locs Qm hQm hx hb hr hml hts hown hlocks hA hS hP hK hD hF hl
  have hown : s.vm.findClass RX10 = some m.cls := hown
  have hl : lv_has ls 4 [(0, .ref (B 0)), (1, .long v), (3, .int nn)] := hl
  have k71 := hts (.constant RX10 71 (-1000001)) (by decide +kernel)
  have k18 := hts (.fieldLink RX10 18 "PigRounds" "tape" "LPigRounds$Tape;") (by decide +kernel)
  have k117 := hts (.fieldLink RX10 117 "PigRounds$Tape" "length" "I") (by decide +kernel)
  have k112 := hts (.constant RX10 112 (-1000003)) (by decide +kernel)
  have iX10 : ∀ w ∈ u_ws RX10 TX10 10, w ∈ wsX10_feed := by decide +kernel
  have iX7 : ∀ w ∈ u_ws RX7 TX7 2, w ∈ wsX10_feed := by decide +kernel
  refine lv_iload_n hx hb dX10_feed_0 rfl (lv_at hl 2 rfl) ?_
  refine lv_iconst (v := 1) hx hb dX10_feed_1 (by decide) ?_
  refine lv_icmp_lt (tgt := 11) hx hb dX10_feed_2 (by decide) (fun c_1 => ?_) (fun c_1 => ?_)
  · have d_1 := i_lt rfl (show (1 : Int32).toInt = 1 from by decide) c_1
    refine lv_ldc (v := (-1000001)) hx hb hown k71 dX10_feed_11 ?_
    rw [hQm]
    exact mx_iret (u0 := sX10_feed v nn p_len p_bytes) (rv := (fun u => some (.int u.1))) (w1 := (fun u => tpW U cB u.2.1 u.2.2 ++ (pigW B S U Q V K Z2 Z3 g_landed g_fault g_find ++ R))) (u := ((-1000001), p_len, p_bytes)) hx hb hr hlocks hK hS ((if_pos c_1).trans rfl) hP hD rfl dX10_feed_13
  · have d_1 := i_ltn rfl (show (1 : Int32).toInt = 1 from by decide) c_1
    refine lv_iload_n hx hb dX10_feed_5 rfl (lv_at hl 2 rfl) ?_
    refine lv_bipush (v := 8) hx hb dX10_feed_6 (by decide) ?_
    refine lv_icmp_le (tgt := 14) hx hb dX10_feed_8 (by decide) (fun c_2 => ?_) (fun c_2 => ?_)
    · have d_2 := i_le rfl (show (8 : Int32).toInt = 8 from by decide) c_2
      refine lv_aload_n hx hb dX10_feed_14 rfl (lv_at hl 0 rfl) ?_
      refine va_get (D := D) (ci := 8) (v := .ref (U 0)) (C := RX10) (T := TX10) (N := 10) hx hb hts iX10 hown hK hP 2 rfl rfl 1 (by decide) k18 (fun _ h9 => h9) rfl dX10_feed_15 ?_
      refine lv_iload_n hx hb dX10_feed_18 rfl (lv_at hl 2 rfl) ?_
      refine mx_callV (As := [.int nn]) (rest := []) ⟨hx, hb, hml, hown, hts⟩ (mtX7_hasRoomFor l D cI cB cK cS U (pigW B S U Q V K Z2 Z3 g_landed g_fault g_find ++ R) p_len p_bytes nn) (cwV 1 hts gX10_feed_X7_hasRoomFor rfl rfl rfl (by decide +kernel) ⟨Nat.le_of_ble_eq_true rfl, Nat.le_of_ble_eq_true rfl⟩) pF0_ok trivial hK hP hD hS hA 0 rfl rfl rfl rfl hl.1 rfl (Nat.le_of_ble_eq_true rfl) dX10_feed_19 ⟨Nat.le_refl _, Nat.le_refl _⟩ (fun u_3 H locs eu_3 hP hD hS => ?_)
      refine W.eq (g2 := F0 m 22 ls [.int u_3]) rfl ?_
      have hP : va_P D vwCl (tpW U cB p_len p_bytes ++ (pigW B S U Q V K Z2 Z3 g_landed g_fault g_find ++ R)) H := hP
      have hD : va_D A (tpW U cB p_len p_bytes ++ (pigW B S U Q V K Z2 Z3 g_landed g_fault g_find ++ R)) := hD
      refine lv_if_ne (tgt := 28) hx hb dX10_feed_22 (by decide) (fun c_4 => ?_) (fun c_4 => ?_)
      · have d_4 := i_eqn rfl (show (0 : Int32).toInt = 0 from by decide) c_4
        refine lv_aload_n hx hb dX10_feed_28 rfl (lv_at hl 0 rfl) ?_
        refine va_get (D := D) (ci := 8) (v := .ref (U 0)) (C := RX10) (T := TX10) (N := 10) hx hb hts iX10 hown hK hP 2 rfl rfl 1 (by decide) k18 (fun _ h9 => h9) rfl dX10_feed_29 ?_
        refine lv_lload_n hx hb dX10_feed_32 rfl (lv_at hl 1 rfl) ?_
        refine lv_iload_n hx hb dX10_feed_33 rfl (lv_at hl 2 rfl) ?_
        refine mx_callV (As := [.long v, .int nn]) (rest := []) ⟨hx, hb, hml, hown, hts⟩ (mtX7_append l D cI cB cK cS U (pigW B S U Q V K Z2 Z3 g_landed g_fault g_find ++ R) p_len p_bytes v nn (by first | assumption | omega) (by first | assumption | omega) (by first | assumption | omega) (by first | assumption | omega)) (cwV 2 hts gX10_feed_X7_append rfl rfl rfl (by decide +kernel) ⟨Nat.le_of_ble_eq_true rfl, Nat.le_of_ble_eq_true rfl⟩) pF0_ok trivial hK hP hD hS hA 0 rfl rfl rfl rfl hl.1 rfl (Nat.le_of_ble_eq_true rfl) dX10_feed_34 ⟨Nat.le_refl _, Nat.le_refl _⟩ (fun u_5 H locs eu_5 hP hD hS => ?_)
        refine W.eq (g2 := F0 m 37 ls []) rfl ?_
        have hP : va_P D vwCl (tpW U cB u_5.1 u_5.2 ++ (pigW B S U Q V K Z2 Z3 g_landed g_fault g_find ++ R)) H := hP
        have hD : va_D A (tpW U cB u_5.1 u_5.2 ++ (pigW B S U Q V K Z2 Z3 g_landed g_fault g_find ++ R)) := hD
        refine lv_aload_n hx hb dX10_feed_37 rfl (lv_at hl 0 rfl) ?_
        refine va_get (D := D) (ci := 8) (v := .ref (U 0)) (C := RX10) (T := TX10) (N := 10) hx hb hts iX10 hown hK hP 2 rfl rfl 1 (by decide) k18 (fun _ h9 => h9) rfl dX10_feed_38 ?_
        refine va_get (D := D) (ci := 6) (v := .int u_5.1) (C := RX7) (T := TX7) (N := 2) hx hb hts iX7 hown hK hP 0 rfl rfl 1 (by decide) k117 (fun _ h9 => h9) rfl dX10_feed_41 ?_
        rw [hQm]
        exact mx_iret (u0 := sX10_feed v nn p_len p_bytes) (rv := (fun u => some (.int u.1))) (w1 := (fun u => tpW U cB u.2.1 u.2.2 ++ (pigW B S U Q V K Z2 Z3 g_landed g_fault g_find ++ R))) (u := (u_5.1, u_5.1, u_5.2)) hx hb hr hlocks hK hS ((if_neg c_1).trans ((if_pos c_2).trans (lt_eq eu_3 ((if_neg c_4).trans (lt_eq eu_5 rfl))))) hP hD rfl dX10_feed_44
      · have d_4 := i_eq rfl (show (0 : Int32).toInt = 0 from by decide) c_4
        refine lv_ldc (v := (-1000003)) hx hb hown k112 dX10_feed_25 ?_
        rw [hQm]
        exact mx_iret (u0 := sX10_feed v nn p_len p_bytes) (rv := (fun u => some (.int u.1))) (w1 := (fun u => tpW U cB u.2.1 u.2.2 ++ (pigW B S U Q V K Z2 Z3 g_landed g_fault g_find ++ R))) (u := ((-1000003), p_len, p_bytes)) hx hb hr hlocks hK hS ((if_neg c_1).trans ((if_pos c_2).trans (lt_eq eu_3 ((if_pos c_4).trans rfl)))) hP hD rfl dX10_feed_27
    · have d_2 := i_len rfl (show (8 : Int32).toInt = 8 from by decide) c_2
      refine lv_ldc (v := (-1000001)) hx hb hown k71 dX10_feed_11 ?_
      rw [hQm]
      exact mx_iret (u0 := sX10_feed v nn p_len p_bytes) (rv := (fun u => some (.int u.1))) (w1 := (fun u => tpW U cB u.2.1 u.2.2 ++ (pigW B S U Q V K Z2 Z3 g_landed g_fault g_find ++ R))) (u := ((-1000001), p_len, p_bytes)) hx hb hr hlocks hK hS ((if_neg c_1).trans ((if_neg c_2).trans rfl)) hP hD rfl dX10_feed_13

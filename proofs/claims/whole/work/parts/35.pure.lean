theorem lt_Q {α β : Type} {Q : β → Prop} {v : α} {f : α → β} (h : ∀ w, w = v → Q (f w)) : Q (lt v f) := h v rfl
theorem lt_Qs {α β : Type} {Q : β → Prop} {v : α} {f : α → β} (w : α) (e : v = w) (h : Q (f w)) : Q (lt v f) := by subst e; exact h
section
variable {L : Nat} {c : Nat → Nat} {pb rt : Nat → Int32}
theorem TP.way (h : TP L c pb rt) {b e t : Nat} (hbe : b ≤ e) (he : e ≤ L) (ht : t ≤ 4) (hn : t = 1 → b < e ∧ ∀ i, b ≤ i → i < e → clsN (c i) = 1) :
    ∃ w : Nat, w ≤ 6 ∧ sX4_wayNamed (nI L) pb (nI e) (tkC t) (nI b) = nI w ∧ sX11_wayOfWord (tkM t) (nI b) (nI e) 0 rt = if w = 0 then -1000000 else nI w := by
  have nm := fun iw hw => h.name hbe he ht hn (iw := iw) hw
  unfold sX4_wayNamed sX11_wayOfWord
  simp only [ltd]
  have c3 : (1818325876 : Int64) = lL (wC 3) := by decide
  have c4 : (1835360622 : Int64) = lL (wC 4) := by decide
  have c5 : (500135456356 : Int64) = lL (wC 5) := by decide
  have c6 : (7165066978583999097 : Int64) = lL (wC 6) := by decide
  have c7 : (1953459300 : Int64) = lL (wC 7) := by decide
  have c8 : (2003399525 : Int64) = lL (wC 8) := by decide
  rw [c3, c4, c5, c6, c7, c8]
  have z : ¬ (1 : Int32) = 0 := by decide
  have o : (0 : Int32) = 0 := rfl
  rcases nm 3 (by omega) with ⟨a1, a2, -⟩ | ⟨a1, a2⟩
  · rw [a1, if_neg z, if_pos a2]; exact ⟨1, by omega, rfl, rfl⟩
  · rw [a1, if_pos o, if_neg a2]
    rcases nm 4 (by omega) with ⟨a1, a2, -⟩ | ⟨a1, a2⟩
    · rw [a1, if_neg z, if_pos a2]; exact ⟨2, by omega, rfl, rfl⟩
    · rw [a1, if_pos o, if_neg a2]
      rcases nm 5 (by omega) with ⟨a1, a2, -⟩ | ⟨a1, a2⟩
      · rw [a1, if_neg z, if_pos a2]; exact ⟨3, by omega, rfl, rfl⟩
      · rw [a1, if_pos o, if_neg a2]
        rcases nm 6 (by omega) with ⟨a1, a2, -⟩ | ⟨a1, a2⟩
        · rw [a1, if_neg z, if_pos a2]; exact ⟨4, by omega, rfl, rfl⟩
        · rw [a1, if_pos o, if_neg a2]
          rcases nm 7 (by omega) with ⟨a1, a2, -⟩ | ⟨a1, a2⟩
          · rw [a1, if_neg z, if_pos a2]; exact ⟨5, by omega, rfl, rfl⟩
          · rw [a1, if_pos o, if_neg a2]
            rcases nm 8 (by omega) with ⟨a1, a2, -⟩ | ⟨a1, a2⟩
            · rw [a1, if_neg z, if_pos a2]; exact ⟨6, by omega, rfl, rfl⟩
            · rw [a1, if_pos o, if_neg a2]; exact ⟨0, by omega, rfl, rfl⟩
def wayS (L : Nat) (rt : Nat → Int32) (w : Int32) (S : rS) : Int32 × rS := if w = 2 then numS L rt 1 3 S else if w = 3 then numS L rt 0 9 S else (0, S)
theorem wayS_bad {f b w : Int32} {S : rS} (h : badS f b S) : badS f b (wayS L rt w S).2 := by
  unfold wayS
  split
  · rw [numS_bad h]; exact h
  · split
    · rw [numS_bad h]; exact h
    · exact h
def wayOK (w n : Int32) : Prop := w = 1 ∨ (w = 2 ∧ (n = 1 ∨ n = 2 ∨ n = 3)) ∨ (w = 3 ∧ bd n 9) ∨ w = 4 ∨ w = 5 ∨ w = 6
theorem TP.rway (h : TP L c pb rt) {p : Nat} {S : rS} (hS : okS L rt p S) (j : Nat) (kv : Nat → Nat → Int32) :
    ∃ w : Int32, w = sX11_wayOfWord S.2.1 S.2.2.1 S.2.2.2.1 0 rt ∧
    ((∃ (p' : Nat) (kv' : Nat → Nat → Int32) (tk v st : Int32), p' ≤ L ∧ sX4_readWay j kv (nI L) pb (nI p) 0 = (1, kv', nI p', tk, v, st, 0) ∧ okS L rt p' (wayS L rt w (mustS L rt (if w = -1000000 then 0 else 1) S)).2 ∧ (∀ i, i ≠ j → kv' i = kv i) ∧ (∀ x, 2 ≤ x → kv' j x = kv j x) ∧ kv' j 0 = w ∧ kv' j 1 = (wayS L rt w (mustS L rt (if w = -1000000 then 0 else 1) S)).1 ∧ wayOK w (kv' j 1)) ∨
     (∃ (f x pl tk v : Int32) (kv' : Nat → Nat → Int32), sX4_readWay j kv (nI L) pb (nI p) 0 = (0, kv', pl, tk, v, x, f) ∧ badS f x (wayS L rt w (mustS L rt (if w = -1000000 then 0 else 1) S)).2 ∧ (∀ i, i ≠ j → kv' i = kv i) ∧ (∀ x, 2 ≤ x → kv' j x = kv j x))) := by
  obtain ⟨b, e, t, v, p1, p2, p3, p4, q1, q2, q3, q4⟩ := h.scan hS.1
  have hS' := hS
  obtain ⟨hp, a, rfl⟩ := hS
  obtain ⟨w, hw6, w1, w2⟩ := h.way p2 p3 p4 q3
  refine ⟨_, rfl, ?_⟩
  unfold sX4_readWay
  simp only [ltd]
  rw [q1]
  rw [q2] at hS' ⊢
  dsimp only
  rw [w1, w2]
  have kj : ∀ (x y : Int32), va_up (va_up kv j (upd (kv j) 0 x)) j (upd (va_up kv j (upd (kv j) 0 x) j) 1 y) = va_up kv j (upd (upd (kv j) 0 x) 1 y) := by
    intro x y
    funext i
    by_cases q : i = j
    · subst q; rw [pu_vs, pu_vs, pu_vs]
    · rw [pu_vn q, pu_vn q, pu_vn q]
  have k2 : ∀ (x y z : Int32), va_up (va_up kv j (upd (upd (kv j) 0 x) 1 y)) j (upd (va_up kv j (upd (upd (kv j) 0 x) 1 y) j) 1 z) = va_up kv j (upd (upd (kv j) 0 x) 1 z) := by
    intro x y z
    funext i
    by_cases q : i = j
    · subst q
      rw [pu_vs, pu_vs, pu_vs]
      funext n
      by_cases q2 : n = 1
      · subst q2; rw [pu_us, pu_us]
      · rw [pu_un q2, pu_un q2, pu_un q2]
    · rw [pu_vn q, pu_vn q, pu_vn q]
  have r1 : ∀ (x y : Int32) i, i ≠ j → va_up kv j (upd (upd (kv j) 0 x) 1 y) i = kv i := fun x y i hi => pu_vn hi
  have r2 : ∀ (x y : Int32) n, 2 ≤ n → va_up kv j (upd (upd (kv j) 0 x) 1 y) j n = kv j n := fun x y n hn => by rw [pu_vs, pu_un (by omega), pu_un (by omega)]
  have r0 : ∀ (x y : Int32), va_up kv j (upd (upd (kv j) 0 x) 1 y) j 0 = x := fun x y => by rw [pu_vs, pu_un (by omega), pu_us]
  have r3 : ∀ (x y : Int32), va_up kv j (upd (upd (kv j) 0 x) 1 y) j 1 = y := fun x y => by rw [pu_vs, pu_us]
  rw [kj]
  simp only [r0, k2]
  have hok := mustS_ok hS' p3 rfl
  rcases (show w = 0 ∨ w = 1 ∨ w = 2 ∨ w = 3 ∨ w = 4 ∨ w = 5 ∨ w = 6 by omega) with rfl | rfl | rfl | rfl | rfl | rfl | rfl
  · right
    rw [if_pos (show nI 0 = 0 from rfl)]
    simp only [if_true]
    have hb : badS 1 (nI b) (mustS L rt 0 (nI e, tkM t, nI b, nI e, 0, a)) := mustS_no hS'
    exact ⟨1, nI b, _, _, _, _, rfl, wayS_bad hb, r1 _ _, r2 _ _⟩
  · left
    rw [if_neg (show ¬ nI 1 = 0 by decide), if_pos (show nI 1 = 1 from rfl), if_neg (show ¬ (1 : Nat) = 0 by omega), if_neg (show ¬ nI 1 = -1000000 by decide)]
    unfold wayS
    rw [if_neg (show ¬ nI 1 = 2 by decide), if_neg (show ¬ nI 1 = 3 by decide)]
    exact ⟨e, _, _, _, _, p3, rfl, hok, r1 _ _, r2 _ _, r0 _ _, r3 _ _, Or.inl rfl⟩
  · rw [if_neg (show ¬ nI 2 = 0 by decide), if_neg (show ¬ nI 2 = 1 by decide), if_pos (show nI 2 = 2 from rfl), if_neg (show ¬ (2 : Nat) = 0 by omega), if_neg (show ¬ nI 2 = -1000000 by decide)]
    unfold wayS
    rw [if_pos (show nI 2 = 2 from rfl)]
    rcases h.num hok 1 3 with ⟨p', v', tk', st', hp', y1, y2, y3, y4, y5⟩ | ⟨f', x, pl, tk', v', y3, y4⟩
    · left
      rw [y3, if_neg (show ¬ (1 : Int32) = 0 by decide)]
      refine ⟨p', _, _, _, _, hp', rfl, y5, r1 _ _, r2 _ _, r0 _ _, ?_, ?_⟩
      · rw [r3, y4]
      · rw [r3]
        refine Or.inr (Or.inl ⟨rfl, ?_⟩)
        rw [show (1 : Int32).toInt = 1 from by decide] at y1
        rw [show (3 : Int32).toInt = 3 from by decide] at y2
        obtain ⟨k, hk, rfl⟩ := pu_ex (x := v') (b := 3) (by omega) (by omega)
        rw [pu_toInt (by omega)] at y1
        rcases (show k = 1 ∨ k = 2 ∨ k = 3 by omega) with rfl | rfl | rfl
        · exact Or.inl rfl
        · exact Or.inr (Or.inl rfl)
        · exact Or.inr (Or.inr rfl)
    · right
      rw [y3, if_pos (show (0 : Int32) = 0 from rfl)]
      exact ⟨f', x, _, _, _, _, rfl, y4, r1 _ _, r2 _ _⟩
  · rw [if_neg (show ¬ nI 3 = 0 by decide), if_neg (show ¬ nI 3 = 1 by decide), if_neg (show ¬ nI 3 = 2 by decide), if_pos (show nI 3 = 3 from rfl), if_neg (show ¬ (3 : Nat) = 0 by omega), if_neg (show ¬ nI 3 = -1000000 by decide)]
    unfold wayS
    rw [if_neg (show ¬ nI 3 = 2 by decide), if_pos (show nI 3 = 3 from rfl)]
    rcases h.num hok 0 9 with ⟨p', v', tk', st', hp', y1, y2, y3, y4, y5⟩ | ⟨f', x, pl, tk', v', y3, y4⟩
    · left
      rw [y3, if_neg (show ¬ (1 : Int32) = 0 by decide)]
      refine ⟨p', _, _, _, _, hp', rfl, y5, r1 _ _, r2 _ _, r0 _ _, ?_, ?_⟩
      · rw [r3, y4]
      · rw [r3]
        rw [i_0] at y1
        rw [show (9 : Int32).toInt = 9 from by decide] at y2
        exact Or.inr (Or.inr (Or.inl ⟨rfl, bd_int y1 (by omega)⟩))
    · right
      rw [y3, if_pos (show (0 : Int32) = 0 from rfl)]
      exact ⟨f', x, _, _, _, _, rfl, y4, r1 _ _, r2 _ _⟩
  · left
    rw [if_neg (show ¬ nI 4 = 0 by decide), if_neg (show ¬ nI 4 = 1 by decide), if_neg (show ¬ nI 4 = 2 by decide), if_neg (show ¬ nI 4 = 3 by decide), if_neg (show ¬ (4 : Nat) = 0 by omega), if_neg (show ¬ nI 4 = -1000000 by decide)]
    unfold wayS
    rw [if_neg (show ¬ nI 4 = 2 by decide), if_neg (show ¬ nI 4 = 3 by decide)]
    exact ⟨e, _, _, _, _, p3, rfl, hok, r1 _ _, r2 _ _, r0 _ _, r3 _ _, Or.inr (Or.inr (Or.inr (Or.inl rfl)))⟩
  · left
    rw [if_neg (show ¬ nI 5 = 0 by decide), if_neg (show ¬ nI 5 = 1 by decide), if_neg (show ¬ nI 5 = 2 by decide), if_neg (show ¬ nI 5 = 3 by decide), if_neg (show ¬ (5 : Nat) = 0 by omega), if_neg (show ¬ nI 5 = -1000000 by decide)]
    unfold wayS
    rw [if_neg (show ¬ nI 5 = 2 by decide), if_neg (show ¬ nI 5 = 3 by decide)]
    exact ⟨e, _, _, _, _, p3, rfl, hok, r1 _ _, r2 _ _, r0 _ _, r3 _ _, Or.inr (Or.inr (Or.inr (Or.inr (Or.inl rfl))))⟩
  · left
    rw [if_neg (show ¬ nI 6 = 0 by decide), if_neg (show ¬ nI 6 = 1 by decide), if_neg (show ¬ nI 6 = 2 by decide), if_neg (show ¬ nI 6 = 3 by decide), if_neg (show ¬ (6 : Nat) = 0 by omega), if_neg (show ¬ nI 6 = -1000000 by decide)]
    unfold wayS
    rw [if_neg (show ¬ nI 6 = 2 by decide), if_neg (show ¬ nI 6 = 3 by decide)]
    exact ⟨e, _, _, _, _, p3, rfl, hok, r1 _ _, r2 _ _, r0 _ _, r3 _ _, Or.inr (Or.inr (Or.inr (Or.inr (Or.inr rfl))))⟩
end
section
variable {L : Nat} {c : Nat → Nat} {pb rt : Nat → Int32}
abbrev cKT := Int32 × (Nat → Int32) × (Nat → Nat → Int32) × Int32 × Int32 × Int32 × Int32 × Int32 × (Nat → Int32)
abbrev mKT := Int32 × Int32 × Int32 × Int32 × Int32 × Int32 × Int32 × (Nat → Int32) × (Nat → Int32)
def mS (M : mKT) : rS := (M.2.1, M.2.2.1, M.2.2.2.1, M.2.2.2.2.1, M.2.2.2.2.2.1, M.2.2.2.2.2.2.1)
def kGood (K : Nat) (kv kv' : Nat → Nat → Int32) (nof nco nof' nco' : Nat → Int32) : Prop :=
  (∀ i, i ≠ K → kv' i = kv i) ∧ kv' K 7 = 0 ∧ (∀ x, x < 6 → nof' (6 * K + x) = kv' K x) ∧ nco' K = kv' K 6 ∧ (∀ n, n < 6 * K → nof' n = nof n) ∧ (∀ n, n ≠ K → nco' n = nco n) ∧
  wayOK (kv' K 0) (kv' K 1) ∧ bd (kv' K 2) 40 ∧ bd (kv' K 3) 9 ∧ bd (kv' K 4) 20 ∧ bd (kv' K 5) 99 ∧ bd (kv' K 6) 999
def kZ (kv kv' : Nat → Nat → Int32) : Prop := ∀ j, kv' j 7 = kv j 7 ∨ kv' j 7 = 0
def KR (L : Nat) (rt : Nat → Int32) (K : Nat) (f : Nat → Int32) (kv : Nat → Nat → Int32) (nof nco : Nat → Int32) (C : cKT) (M : mKT) : Prop :=
  (∃ p' : Nat, K < 5 ∧ C.1 = 1 ∧ C.2.1 = upd f 2 (nI (K + 1)) ∧ C.2.2.2.1 = nI p' ∧ C.2.2.2.2.2.2.2.1 = 0 ∧ M.1 = nI (K + 1) ∧ okS L rt p' (mS M) ∧ kGood K kv C.2.2.1 nof nco M.2.2.2.2.2.2.2.1 M.2.2.2.2.2.2.2.2) ∨
  (C.1 = 0 ∧ badS C.2.2.2.2.2.2.2.1 C.2.2.2.2.2.2.1 (mS M) ∧ kZ kv C.2.2.1)
theorem word_bad {t b e f : Int32} (h : ¬ f = 0) : sX11_word t b e f rt = 0 := by
  unfold sX11_word
  rw [ltd, if_neg h]
theorem tb7 : tbN 7 = 5 ∧ tbN 8 = 5 := ⟨rfl, rfl⟩
theorem TP.kind (h : TP L c pb rt) {p K : Nat} {S : rS} (hS : okS L rt p S) (hK : K ≤ 5) {f : Nat → Int32} (hf : f 2 = nI K) (kv : Nat → Nat → Int32) (dn nof nco : Nat → Int32) :
    KR L rt K f kv nof nco (sX4_readKind f kv (nI L) pb (sX4_scan (nI L) pb (nI p)).1 (sX4_scan (nI L) pb (nI p)).2.1 (sX4_scan (nI L) pb (nI p)).2.2.1 (sX4_scan (nI L) pb (nI p)).2.2.2 0 dn) (sX11_readKind (nI K) (nI L) S.1 S.2.1 S.2.2.1 S.2.2.2.1 S.2.2.2.2.1 S.2.2.2.2.2 nof nco rt) := by
  obtain ⟨b, e, t, v, p1, p2, p3, p4, q1, q2, q3, q4⟩ := h.scan hS.1
  have hS' := hS
  obtain ⟨hp, a, rfl⟩ := hS
  rw [q1]
  rw [q2] at hS' ⊢
  dsimp only
  generalize hC : sX4_readKind f kv (nI L) pb (nI e) (tkC t) v (nI b) 0 dn = C
  unfold sX11_readKind
  refine lt_Q (Q := KR L rt K f kv nof nco C) (fun u1 h1 => ?_)
  refine lt_Q (Q := KR L rt K f kv nof nco C) (fun y2 h2 => ?_)
  refine lt_Q (Q := KR L rt K f kv nof nco C) (fun u6 h6 => ?_)
  refine lt_Q (Q := KR L rt K f kv nof nco C) (fun y7 h7 => ?_)
  refine lt_Q (Q := KR L rt K f kv nof nco C) (fun u9 h9 => ?_)
  refine lt_Q (Q := KR L rt K f kv nof nco C) (fun u10 h10 => ?_)
  refine lt_Q (Q := KR L rt K f kv nof nco C) (fun y11 h11 => ?_)
  refine lt_Q (Q := KR L rt K f kv nof nco C) (fun y16 h16 => ?_)
  refine lt_Q (Q := KR L rt K f kv nof nco C) (fun u21 h21 => ?_)
  refine lt_Q (Q := KR L rt K f kv nof nco C) (fun u22 h22 => ?_)
  refine lt_Q (Q := KR L rt K f kv nof nco C) (fun u23 h23 => ?_)
  refine lt_Q (Q := KR L rt K f kv nof nco C) (fun u24 h24 => ?_)
  refine lt_Q (Q := KR L rt K f kv nof nco C) (fun u25 h25 => ?_)
  refine lt_Q (Q := KR L rt K f kv nof nco C) (fun u26 h26 => ?_)
  have n21 : numS L rt (tbF 7 0) (tbF 8 0) y16.2 = u21 := h21.symm
  have n22 : numS L rt (tbF 7 1) (tbF 8 1) u21.2 = u22 := h22.symm
  have n23 : numS L rt (tbF 7 2) (tbF 8 2) u22.2 = u23 := h23.symm
  have n24 : numS L rt (tbF 7 3) (tbF 8 3) u23.2 = u24 := h24.symm
  have n25 : numS L rt (tbF 7 4) (tbF 8 4) u24.2 = u25 := h25.symm
  have n26 : endS L rt u25.2 = u26 := h26.symm
  have hR : mRun L rt 7 8 5 0 y16.2 (fun _ => 0) = (upd (upd (upd (upd (upd (fun _ => 0) 0 u21.1) 1 u22.1) 2 u23.1) 3 u24.1) 4 u25.1, u26) := by
    show mRun L rt 7 8 4 1 (numS L rt (tbF 7 0) (tbF 8 0) y16.2).2 (upd (fun _ => 0) 0 (numS L rt (tbF 7 0) (tbF 8 0) y16.2).1) = _
    rw [n21]
    show mRun L rt 7 8 3 2 (numS L rt (tbF 7 1) (tbF 8 1) u21.2).2 (upd (upd (fun _ => 0) 0 u21.1) 1 (numS L rt (tbF 7 1) (tbF 8 1) u21.2).1) = _
    rw [n22]
    show mRun L rt 7 8 2 3 (numS L rt (tbF 7 2) (tbF 8 2) u22.2).2 (upd (upd (upd (fun _ => 0) 0 u21.1) 1 u22.1) 2 (numS L rt (tbF 7 2) (tbF 8 2) u22.2).1) = _
    rw [n23]
    show mRun L rt 7 8 1 4 (numS L rt (tbF 7 3) (tbF 8 3) u23.2).2 (upd (upd (upd (upd (fun _ => 0) 0 u21.1) 1 u22.1) 2 u23.1) 3 (numS L rt (tbF 7 3) (tbF 8 3) u23.2).1) = _
    rw [n24]
    show mRun L rt 7 8 0 5 (numS L rt (tbF 7 4) (tbF 8 4) u24.2).2 (upd (upd (upd (upd (upd (fun _ => 0) 0 u21.1) 1 u22.1) 2 u23.1) 3 u24.1) 4 (numS L rt (tbF 7 4) (tbF 8 4) u24.2).1) = _
    rw [n25]
    show (_, endS L rt u25.2) = _
    rw [n26]
  have hy16 : y16 = wayS L rt u10 y11 := by
    rw [h16]
    unfold wayS numS
    split
    · rw [ltd]
    · split
      · rw [ltd]
      · rw [et6]
  have stays : ∀ φ x, badS φ x u9 → badS φ x u26 := by
    intro φ x hb
    have e11 : y11 = u9 := by
      rw [h11, if_neg hb.ne.1, et6]
    have hb16 : badS φ x y16.2 := by rw [hy16, e11]; exact wayS_bad hb
    have := mRun_bad (L := L) (rt := rt) (a := 7) (b := 8) 5 0 y16.2 (fun _ => 0) hb16
    rw [hR] at this
    exact this
  have last : ∀ φ x, badS φ x u26 → C.1 = 0 → C.2.2.2.2.2.2.2.1 = φ → C.2.2.2.2.2.2.1 = x → kZ kv C.2.2.1 → KR L rt K f kv nof nco C (nI K, u26.1, u26.2.1, u26.2.2.1, u26.2.2.2.1, u26.2.2.2.2.1, u26.2.2.2.2.2, nof, nco) := by
    intro φ x hb c1 c2 c3 c4
    refine Or.inr ⟨c1, ?_, c4⟩
    rw [c2, c3]
    exact hb
  have kc : (1802071652 : Int64) = lL (wC 2) := by decide
  unfold sX4_readKind at hC
  simp only [ltd] at hC
  rw [kc] at h2 h7
  rcases h.name p2 p3 p4 q3 (iw := 2) (by omega) with ⟨m1, m2, m3⟩ | ⟨m1, m2⟩
  · rw [m1, if_neg (show ¬ (1 : Int32) = 0 by decide)] at hC
    rw [h1, if_pos m2] at h2
    rcases Nat.lt_or_ge K 5 with k5 | k5
    · -- a kind for which there is room
      have kne : ¬ nI K = (5 : Int32) := fun q => by have := (pu_inj (b := 5) (by omega) (by omega)).mp q; omega
      rw [if_neg kne] at h2
      have e6 : u6 = sX11_word (tkM t) (nI b) (nI e) 0 rt := by rw [h6, h2]
      rw [e6, if_pos m2] at h7
      have e9 : u9 = mustS L rt 1 (nI e, tkM t, nI b, nI e, 0, a) := by rw [h9, h7, h2]; rfl
      have ok9 : okS L rt e u9 := by rw [e9]; exact mustS_ok hS' p3 rfl
      have fa9 : u9.2.2.2.2.1 = 0 := by obtain ⟨-, x, e'⟩ := ok9; rw [e']
      have e10 : u10 = sX11_wayOfWord u9.2.1 u9.2.2.1 u9.2.2.2.1 0 rt := by rw [h10, fa9]
      have e11 : y11 = mustS L rt (if u10 = -1000000 then 0 else 1) u9 := by
        rw [h11, if_pos fa9, ltd, ltd, et6]
        rfl
      have enk : sX2_nextKind f kv = (some K, upd f 2 (nI (K + 1)), va_up kv K (upd (kv K) 7 0)) := by
        unfold sX2_nextKind
        rw [hf, if_pos (show nI K < (5 : Int32) from (pu_lt (b := 5) (by omega) (by omega)).mpr k5), pu_nat (by omega), ltd, pu_succ]
      rw [enk, if_neg (show ¬ (some K = none) from fun q => by cases q)] at hC
      dsimp only at hC
      rw [show (some K).getD 0 = K from rfl] at hC
      obtain ⟨w, ew, hw⟩ := h.rway ok9 K (va_up kv K (upd (kv K) 7 0))
      rw [← e10] at ew
      subst ew
      rw [← e11, ← hy16] at hw
      have kvn : ∀ i, i ≠ K → va_up kv K (upd (kv K) 7 0) i = kv i := fun i hi => pu_vn hi
      have kv7 : va_up kv K (upd (kv K) 7 0) K 7 = 0 := by rw [pu_vs, pu_us]
      have zz : ∀ kv' : Nat → Nat → Int32, (∀ i, i ≠ K → kv' i = va_up kv K (upd (kv K) 7 0) i) → (∀ x, 2 ≤ x → kv' K x = va_up kv K (upd (kv K) 7 0) K x) → kZ kv kv' := by
        intro kv' a1 a2 j
        by_cases q : j = K
        · subst q; right; rw [a2 7 (by omega), kv7]
        · left; rw [a1 j q, kvn j q]
      rcases hw with ⟨p', kv', tk', v', st', hp', y1, y2', y3, y4, y5, y6, y7'⟩ | ⟨φ, x, pl, tk', v', kv', y1, y2', y3, y4⟩
      · rw [y1, if_neg (show ¬ (1 : Int32) = 0 by decide)] at hC
        dsimp only at hC
        unfold sX4_takeNumbers at hC
        have hN := h.nums (a := 7) (b := 8) tb7.1 tb7.2 (Nat.le_refl 5) 5 0 6 p' y16.2 tk' v' st' dn (fun _ => 0) (by omega) (by omega) y2'
        rw [hR, show nI 0 = (0 : Int32) from rfl] at hN
        rcases hN with ⟨p'', tk'', v'', st'', dn', z1, z2, z3, z4, z5, z6⟩ | ⟨φ, x, pl, tk'', v'', dn', z1, z2⟩
        · rw [z2, if_neg (show ¬ (1 : Int32) = 0 by decide)] at hC
          dsimp only at hC z3 z5
          have d0 : dn' 0 = u21.1 := (z5 0 (by omega) (by omega)).1
          have d1 : dn' 1 = u22.1 := (z5 1 (by omega) (by omega)).1
          have d2 : dn' 2 = u23.1 := (z5 2 (by omega) (by omega)).1
          have d3 : dn' 3 = u24.1 := (z5 3 (by omega) (by omega)).1
          have d4 : dn' 4 = u25.1 := (z5 4 (by omega) (by omega)).1
          have bb0 : bd (dn' 0) 40 := by
            have := (z5 0 (by omega) (by omega)).2
            rw [show (tbF 7 0).toInt = 1 from by decide, show (tbF 8 0).toInt = 40 from by decide] at this
            exact bd_int (by omega) (by omega)
          have bb1 : bd (dn' 1) 9 := by
            have := (z5 1 (by omega) (by omega)).2
            rw [show (tbF 7 1).toInt = 0 from by decide, show (tbF 8 1).toInt = 9 from by decide] at this
            exact bd_int (by omega) (by omega)
          have bb2 : bd (dn' 2) 20 := by
            have := (z5 2 (by omega) (by omega)).2
            rw [show (tbF 7 2).toInt = 0 from by decide, show (tbF 8 2).toInt = 20 from by decide] at this
            exact bd_int (by omega) (by omega)
          have bb3 : bd (dn' 3) 99 := by
            have := (z5 3 (by omega) (by omega)).2
            rw [show (tbF 7 3).toInt = 0 from by decide, show (tbF 8 3).toInt = 99 from by decide] at this
            exact bd_int (by omega) (by omega)
          have bb4 : bd (dn' 4) 999 := by
            have := (z5 4 (by omega) (by omega)).2
            rw [show (tbF 7 4).toInt = 0 from by decide, show (tbF 8 4).toInt = 999 from by decide] at this
            exact bd_int (by omega) (by omega)
          have fa26 : u26.2.2.2.2.1 = 0 := by obtain ⟨-, x, e'⟩ := z3; rw [e']
          rw [if_pos fa26]
          have vv : ∀ (g : Nat → Nat → Int32) (x : Nat) (y : Int32), va_up g K (upd (g K) x y) = fun i => if i = K then upd (g K) x y else g i := fun g x y => rfl
          have row : ∀ (g : Nat → Nat → Int32) (x : Nat) (y : Int32), va_up g K (upd (g K) x y) K = upd (g K) x y := fun g x y => pu_vs
          have oth : ∀ (g : Nat → Nat → Int32) (x : Nat) (y : Int32) i, i ≠ K → va_up g K (upd (g K) x y) i = g i := fun g x y i hi => pu_vn hi
          left
          have hk6 : ∀ x : Nat, x < 6 → (6 * nI K + nI x).toNatClampNeg = 6 * K + x := fun x hx => by rw [show (6 : Int32) = nI 6 from rfl, pu_mul, pu_add, pu_nat (by omega)]
          refine ⟨p'', k5, ?_, ?_, ?_, ?_, ?_, ?_, ?_⟩
          · rw [← hC]
          · rw [← hC]
          · rw [← hC]
          · rw [← hC]
          · simp only [ltd]
            rw [pu_succ]
          · simp only [ltd]
            exact z3
          · simp only [ltd]
            rw [← hC]
            dsimp only
            rw [show (6 * nI K + 0).toNatClampNeg = 6 * K + 0 from hk6 0 (by omega), show (6 * nI K + 1).toNatClampNeg = 6 * K + 1 from hk6 1 (by omega), show (6 * nI K + 2).toNatClampNeg = 6 * K + 2 from hk6 2 (by omega), show (6 * nI K + 3).toNatClampNeg = 6 * K + 3 from hk6 3 (by omega), show (6 * nI K + 4).toNatClampNeg = 6 * K + 4 from hk6 4 (by omega), show (6 * nI K + 5).toNatClampNeg = 6 * K + 5 from hk6 5 (by omega), pu_nat (show K < 2147483648 by omega)]
            have c0 : ∀ x, x < 2 → upd (upd (upd (upd (upd (kv' K) 2 (dn' 0)) 3 (dn' 1)) 4 (dn' 2)) 5 (dn' 3)) 6 (dn' 4) x = kv' K x := fun x hx => by rw [pu_un (by omega), pu_un (by omega), pu_un (by omega), pu_un (by omega), pu_un (by omega)]
            have rK : va_up (va_up (va_up (va_up (va_up kv' K (upd (kv' K) 2 (dn' 0))) K (upd (va_up kv' K (upd (kv' K) 2 (dn' 0)) K) 3 (dn' 1))) K (upd (va_up (va_up kv' K (upd (kv' K) 2 (dn' 0))) K (upd (va_up kv' K (upd (kv' K) 2 (dn' 0)) K) 3 (dn' 1)) K) 4 (dn' 2))) K (upd (va_up (va_up (va_up kv' K (upd (kv' K) 2 (dn' 0))) K (upd (va_up kv' K (upd (kv' K) 2 (dn' 0)) K) 3 (dn' 1))) K (upd (va_up (va_up kv' K (upd (kv' K) 2 (dn' 0))) K (upd (va_up kv' K (upd (kv' K) 2 (dn' 0)) K) 3 (dn' 1)) K) 4 (dn' 2)) K) 5 (dn' 3))) K (upd (va_up (va_up (va_up (va_up kv' K (upd (kv' K) 2 (dn' 0))) K (upd (va_up kv' K (upd (kv' K) 2 (dn' 0)) K) 3 (dn' 1))) K (upd (va_up (va_up kv' K (upd (kv' K) 2 (dn' 0))) K (upd (va_up kv' K (upd (kv' K) 2 (dn' 0)) K) 3 (dn' 1)) K) 4 (dn' 2))) K (upd (va_up (va_up (va_up kv' K (upd (kv' K) 2 (dn' 0))) K (upd (va_up kv' K (upd (kv' K) 2 (dn' 0)) K) 3 (dn' 1))) K (upd (va_up (va_up kv' K (upd (kv' K) 2 (dn' 0))) K (upd (va_up kv' K (upd (kv' K) 2 (dn' 0)) K) 3 (dn' 1)) K) 4 (dn' 2)) K) 5 (dn' 3)) K) 6 (dn' 4)) = va_up kv' K (upd (upd (upd (upd (upd (kv' K) 2 (dn' 0)) 3 (dn' 1)) 4 (dn' 2)) 5 (dn' 3)) 6 (dn' 4)) := by
              funext i
              by_cases q : i = K
              · subst q; simp only [pu_vs]
              · rw [pu_vn q, pu_vn q, pu_vn q, pu_vn q, pu_vn q, pu_vn q]
            rw [rK]
            have rr : va_up kv' K (upd (upd (upd (upd (upd (kv' K) 2 (dn' 0)) 3 (dn' 1)) 4 (dn' 2)) 5 (dn' 3)) 6 (dn' 4)) K = upd (upd (upd (upd (upd (kv' K) 2 (dn' 0)) 3 (dn' 1)) 4 (dn' 2)) 5 (dn' 3)) 6 (dn' 4) := pu_vs
            refine ⟨?_, ?_, ?_, ?_, ?_, ?_, ?_, ?_, ?_, ?_, ?_, ?_⟩
            · intro i hi
              rw [pu_vn hi, y3 i hi, kvn i hi]
            · rw [rr, pu_un (by omega), pu_un (by omega), pu_un (by omega), pu_un (by omega), pu_un (by omega), y4 7 (by omega), kv7]
            · intro x hx
              rw [rr]
              rcases (show x = 0 ∨ x = 1 ∨ x = 2 ∨ x = 3 ∨ x = 4 ∨ x = 5 by omega) with rfl | rfl | rfl | rfl | rfl | rfl
              · rw [pu_un (by omega), pu_un (by omega), pu_un (by omega), pu_un (by omega), pu_un (by omega), pu_us, c0 0 (by omega), y5]
              · rw [pu_un (by omega), pu_un (by omega), pu_un (by omega), pu_un (by omega), pu_us, c0 1 (by omega), y6]
              · rw [pu_un (by omega), pu_un (by omega), pu_un (by omega), pu_us, pu_un (by omega), pu_un (by omega), pu_un (by omega), pu_un (by omega), pu_us, d0]
              · rw [pu_un (by omega), pu_un (by omega), pu_us, pu_un (by omega), pu_un (by omega), pu_un (by omega), pu_us, d1]
              · rw [pu_un (by omega), pu_us, pu_un (by omega), pu_un (by omega), pu_us, d2]
              · rw [pu_us, pu_un (by omega), pu_us, d3]
            · rw [rr, pu_us, pu_us, d4]
            · intro n hn
              rw [pu_un (by omega), pu_un (by omega), pu_un (by omega), pu_un (by omega), pu_un (by omega), pu_un (by omega)]
            · intro n hn
              exact pu_un hn
            · rw [rr, c0 0 (by omega), c0 1 (by omega), y5]
              exact y7'
            · rw [rr, pu_un (by omega), pu_un (by omega), pu_un (by omega), pu_un (by omega), pu_us]; exact bb0
            · rw [rr, pu_un (by omega), pu_un (by omega), pu_un (by omega), pu_us]; exact bb1
            · rw [rr, pu_un (by omega), pu_un (by omega), pu_us]; exact bb2
            · rw [rr, pu_un (by omega), pu_us]; exact bb3
            · rw [rr, pu_us]; exact bb4
        · rw [z1, if_pos (show (0 : Int32) = 0 from rfl)] at hC
          have z2' : badS φ x u26 := z2
          rw [if_neg z2'.ne.1]
          refine last φ x z2' ?_ ?_ ?_ ?_ <;> rw [← hC]
          exact zz kv' y3 y4
      · rw [y1, if_pos (show (0 : Int32) = 0 from rfl)] at hC
        have hb26 : badS φ x u26 := by
          have := mRun_bad (L := L) (rt := rt) (a := 7) (b := 8) 5 0 y16.2 (fun _ => 0) y2'
          rw [hR] at this
          exact this
        rw [if_neg hb26.ne.1]
        refine last φ x hb26 ?_ ?_ ?_ ?_ <;> rw [← hC]
        exact zz kv' y3 y4
    · -- no room
      have e5 : K = 5 := by omega
      subst e5
      rw [if_pos (show nI 5 = (5 : Int32) from rfl), ltd] at h2
      have e2 : y2 = (3, nI b) := by rw [h2]; rfl
      have e6 : u6 = 0 := by rw [h6, e2]; exact word_bad (show ¬ (3 : Int32) = 0 by decide)
      have zne : ¬ lg_cmp (0 : Int64) (lL (wC 2)) = 0 := by rw [cmp_eq0]; decide
      rw [e6, if_neg zne] at h7
      have hb9 : badS 3 (nI b) u9 := by
        rw [h9, h7, e2]
        unfold sX11_must sX11_bad
        simp only [ltd, if_true]
        rw [if_neg (show ¬ (3 : Int32) = 0 by decide), if_neg (show ¬ (3 : Int32) = 0 by decide)]
        exact ⟨rfl, rfl, Or.inr (Or.inr rfl)⟩
      have hb26 := stays 3 (nI b) hb9
      have enk : sX2_nextKind f kv = (none, f, kv) := by
        unfold sX2_nextKind
        rw [hf, if_neg (show ¬ nI 5 < (5 : Int32) by decide)]
      rw [enk] at hC
      simp only [if_true] at hC
      rw [if_neg hb26.ne.1]
      refine last 3 (nI b) hb26 ?_ ?_ ?_ ?_ <;> rw [← hC]
      · rfl
      · rfl
      · exact fun j => Or.inl rfl
  · rw [m1, if_pos (show (0 : Int32) = 0 from rfl)] at hC
    rw [h1, if_neg m2] at h2
    have e6 : u6 = sX11_word (tkM t) (nI b) (nI e) 0 rt := by rw [h6, h2]
    rw [e6, if_neg m2] at h7
    have hb9 : badS 1 (nI b) u9 := by
      rw [h9, h7, h2]
      exact mustS_no hS'
    have hb26 := stays 1 (nI b) hb9
    rw [if_neg hb26.ne.1]
    refine last 1 (nI b) hb26 ?_ ?_ ?_ ?_ <;> rw [← hC]
    · rfl
    · rfl
    · exact fun j => Or.inl rfl
end
section
variable {L : Nat} {c : Nat → Nat} {pb rt : Nat → Int32}
def Rows (K : Nat) (kv : Nat → Nat → Int32) (nof nco : Nat → Int32) : Prop := ∀ j, j < K → kv j 7 = 0 ∧ (∀ x, x < 6 → nof (6 * j + x) = kv j x) ∧ nco j = kv j 6 ∧ wayOK (kv j 0) (kv j 1) ∧ bd (kv j 2) 40 ∧ bd (kv j 3) 9 ∧ bd (kv j 4) 20 ∧ bd (kv j 5) 99 ∧ bd (kv j 6) 999
theorem Rows.next {K : Nat} {kv kv' : Nat → Nat → Int32} {nof nco nof' nco' : Nat → Int32} (h : Rows K kv nof nco) (g : kGood K kv kv' nof nco nof' nco') : Rows (K + 1) kv' nof' nco' := by
  obtain ⟨g1, g2, g3, g4, g5, g6, g7⟩ := g
  intro j hj
  by_cases q : j = K
  · subst q
    exact ⟨g2, g3, g4, g7⟩
  · obtain ⟨a1, a2, a3, a4⟩ := h j (by omega)
    rw [g1 j q]
    exact ⟨a1, fun x hx => (g5 _ (by omega)).trans (a2 x hx), (g6 j q).trans a3, a4⟩
abbrev cIT := Int32 × Int32 × (Nat → Int32) × (Nat → Nat → Int32) × Int32 × Int32 × Int32 × Int32 × Int32 × (Nat → Int32)
def IR (L : Nat) (rt : Nat → Int32) (f : Nat → Int32) (kv : Nat → Nat → Int32) (C : cIT) (M : mKT) : Prop :=
  kZ kv C.2.2.2.1 ∧ ((∃ K : Nat, K ≤ 5 ∧ C.2.2.1 2 = nI K ∧ (∀ x, x ≠ 2 → C.2.2.1 x = f x) ∧ C.2.2.2.2.2.2.2.2.1 = 0 ∧ M.1 = nI K ∧ M.2.2.2.2.2.1 = 0 ∧ Rows K C.2.2.2.1 M.2.2.2.2.2.2.2.1 M.2.2.2.2.2.2.2.2) ∨
  badS C.2.2.2.2.2.2.2.2.1 C.2.2.2.2.2.2.2.1 (mS M))
theorem kZ.trans' {a b d : Nat → Nat → Int32} (h : kZ a b) (g : kZ b d) : kZ a d := by
  intro j
  rcases g j with z | z
  · rw [z]; exact h j
  · exact Or.inr z
theorem kGood.z {K : Nat} {kv kv' : Nat → Nat → Int32} {nof nco nof' nco' : Nat → Int32} (g : kGood K kv kv' nof nco nof' nco') : kZ kv kv' := by
  intro j
  by_cases q : j = K
  · subst q; exact Or.inr g.2.1
  · rw [g.1 j q]; exact Or.inl rfl
theorem TP.kinds (h : TP L c pb rt) {kv0 : Nat → Nat → Int32} {f0 : Nat → Int32} : ∀ (m K n1 n2 p : Nat) (S : rS) (tk v st : Int32) (f : Nat → Int32) (kv : Nat → Nat → Int32) (dn nof nco : Nat → Int32), K + m = 5 → m + 1 < n1 → m + 1 < n2 → okS L rt p S → f 2 = nI K → (∀ x, x ≠ 2 → f x = f0 x) → kZ kv0 kv → Rows K kv nof nco →
    IR L rt f0 kv0 (lX4_readInto_38 (nI L) pb n1 (nI K) 1 f kv (nI p) tk v st 0 dn) (lX11_land_157 (nI L) rt n2 (nI K) S.1 S.2.1 S.2.2.1 S.2.2.2.1 S.2.2.2.2.1 S.2.2.2.2.2 nof nco) := by
  intro m
  induction m with
  | zero =>
    intro K n1 n2 p S tk v st f kv dn nof nco h1 h2 h3 hS hf hf0 hz hr
    obtain ⟨n1, rfl⟩ : ∃ n', n1 = n' + 1 + 1 := ⟨n1 - 2, by omega⟩
    obtain ⟨n2, rfl⟩ : ∃ n', n2 = n' + 1 + 1 := ⟨n2 - 2, by omega⟩
    have hk := h.kind hS (show K ≤ 5 by omega) hf kv dn nof nco
    obtain ⟨b, e, t, v', p1, p2, p3, p4, q1, q2, q3, q4⟩ := h.scan hS.1
    have hS2 : S.2.1 = tkM t := by obtain ⟨-, a, e'⟩ := hS; rw [e', q2]
    have hS5 : S.2.2.2.2.1 = 0 := by obtain ⟨-, a, e'⟩ := hS; rw [e']
    rw [lX4_readInto_38, if_neg (show ¬ (1 : Int32) = 0 by decide), if_neg (show ¬ (5 : Int32) < nI K from fun q => by have := (pu_lt (a := 5) (by omega) (by omega)).mp q; omega), lX11_land_157, if_pos hS5]
    rw [q1] at hk ⊢
    dsimp only at hk
    rw [ltd]
    dsimp only
    by_cases t0 : t = 0
    · subst t0
      rw [if_pos (show tkC 0 = 0 from rfl), if_pos (show S.2.1 = 1 from hS2), ltd, lX4_readInto_38, if_pos rfl]
      exact ⟨hz, Or.inl ⟨K, by omega, hf, hf0, rfl, rfl, hS5, hr⟩⟩
    · have c1 : ¬ tkC t = 0 := by
        unfold tkC
        split
        · decide
        · exact fun q => t0 ((pu_inj (b := 0) (by omega) (by omega)).mp q)
      have c2 : ¬ S.2.1 = 1 := by
        rw [hS2]
        unfold tkM
        split
        · decide
        · exact fun q => by have := (pu_inj (b := 1) (by omega) (by omega)).mp q; omega
      rw [if_neg c1, if_neg c2, ltd, ltd, ltd, ltd]
      generalize sX4_readKind f kv (nI L) pb (nI e) (tkC t) v' (nI b) 0 dn = C at hk ⊢
      generalize sX11_readKind (nI K) (nI L) S.1 S.2.1 S.2.2.1 S.2.2.2.1 S.2.2.2.2.1 S.2.2.2.2.2 nof nco rt = M at hk ⊢
      rcases hk with ⟨p', k5, -⟩ | ⟨y1, y2, y3⟩
      · omega
      · have y2' : ¬ M.2.2.2.2.2.1 = 0 := y2.ne.1
        rw [y1, if_pos rfl, lX4_readInto_38, if_pos rfl, lX11_land_157, if_neg y2']
        exact ⟨hz.trans' y3, Or.inr y2⟩
  | succ m ih =>
    intro K n1 n2 p S tk v st f kv dn nof nco h1 h2 h3 hS hf hf0 hz hr
    obtain ⟨n1, rfl⟩ : ∃ n', n1 = n' + 1 + 1 := ⟨n1 - 2, by omega⟩
    obtain ⟨n2, rfl⟩ : ∃ n', n2 = n' + 1 + 1 := ⟨n2 - 2, by omega⟩
    have hk := h.kind hS (show K ≤ 5 by omega) hf kv dn nof nco
    obtain ⟨b, e, t, v', p1, p2, p3, p4, q1, q2, q3, q4⟩ := h.scan hS.1
    have hS2 : S.2.1 = tkM t := by obtain ⟨-, a, e'⟩ := hS; rw [e', q2]
    have hS5 : S.2.2.2.2.1 = 0 := by obtain ⟨-, a, e'⟩ := hS; rw [e']
    rw [lX4_readInto_38, if_neg (show ¬ (1 : Int32) = 0 by decide), if_neg (show ¬ (5 : Int32) < nI K from fun q => by have := (pu_lt (a := 5) (by omega) (by omega)).mp q; omega), lX11_land_157, if_pos hS5]
    rw [q1] at hk ⊢
    dsimp only at hk
    rw [ltd]
    dsimp only
    by_cases t0 : t = 0
    · subst t0
      rw [if_pos (show tkC 0 = 0 from rfl), if_pos (show S.2.1 = 1 from hS2), ltd, lX4_readInto_38, if_pos rfl]
      exact ⟨hz, Or.inl ⟨K, by omega, hf, hf0, rfl, rfl, hS5, hr⟩⟩
    · have c1 : ¬ tkC t = 0 := by
        unfold tkC
        split
        · decide
        · exact fun q => t0 ((pu_inj (b := 0) (by omega) (by omega)).mp q)
      have c2 : ¬ S.2.1 = 1 := by
        rw [hS2]
        unfold tkM
        split
        · decide
        · exact fun q => by have := (pu_inj (b := 1) (by omega) (by omega)).mp q; omega
      rw [if_neg c1, if_neg c2, ltd, ltd, ltd, ltd]
      generalize sX4_readKind f kv (nI L) pb (nI e) (tkC t) v' (nI b) 0 dn = C at hk ⊢
      generalize sX11_readKind (nI K) (nI L) S.1 S.2.1 S.2.2.1 S.2.2.2.1 S.2.2.2.2.1 S.2.2.2.2.2 nof nco rt = M at hk ⊢
      rcases hk with ⟨p', k5, y1, y2, y3, y4, y5, y6, y7⟩ | ⟨y1, y2, y3⟩
      · rw [y1, if_neg (show ¬ (1 : Int32) = 0 by decide), pu_succ, y3, y4, y5]
        refine ih (K + 1) (n1 + 1) (n2 + 1) p' (mS M) _ _ _ C.2.1 C.2.2.1 _ _ _ (by omega) (by omega) (by omega) y6 ?_ ?_ (hz.trans' y7.z) (hr.next y7)
        · rw [y2, pu_us]
        · intro x hx
          rw [y2, pu_un hx]; exact hf0 x hx
      · have y2' : ¬ M.2.2.2.2.2.1 = 0 := y2.ne.1
        rw [y1, if_pos rfl, lX4_readInto_38, if_pos rfl, lX11_land_157, if_neg y2']
        exact ⟨hz.trans' y3, Or.inr y2⟩
end
section
variable {L : Nat} {c : Nat → Nat} {pb rt : Nat → Int32}
theorem TP.market (h : TP L c pb rt) {p : Nat} {S : rS} (hS : okS L rt p S) (f dn vs : Nat → Int32) :
    ∃ R : (Nat → Int32) × rS, R = mRun L rt 3 4 3 0 (mustS L rt (if lg_cmp (sX11_word S.2.1 S.2.2.1 S.2.2.2.1 0 rt) (lL (wC 0)) = 0 then 1 else 0) S) vs ∧
    ((∃ (p' : Nat) (tk v st : Int32) (dn' : Nat → Int32), sX4_readMarket f (nI L) pb (nI p) 0 dn = (1, upd (upd (upd f 3 (R.1 0)) 4 (R.1 1)) 5 (R.1 2), nI p', tk, v, st, 0, dn') ∧ okS L rt p' R.2 ∧ bd (R.1 0) 99 ∧ (∃ d : Nat, 1 ≤ d ∧ d ≤ 20 ∧ R.1 1 = nI d) ∧ bd (R.1 2) 20) ∨
     (∃ (φ x pl tk v : Int32) (dn' : Nat → Int32), sX4_readMarket f (nI L) pb (nI p) 0 dn = (0, f, pl, tk, v, x, φ, dn') ∧ badS φ x R.2)) := by
  refine ⟨_, rfl, ?_⟩
  unfold sX4_readMarket
  rw [ltd]
  rcases h.taken hS (iw := 0) (by omega) with ⟨p', v, st, tk, hp', y1, y2⟩ | ⟨x, pl, tk, v, y1, y2⟩
  · rw [y1, if_neg (show ¬ (1 : Int32) = 0 by decide), ltd]
    dsimp only
    unfold sX4_takeNumbers
    have hN := h.nums (a := 3) (b := 4) (k := 3) rfl rfl (by omega) 3 0 6 p' _ tk v st dn vs (by omega) (by omega) y2
    rw [show nI 0 = (0 : Int32) from rfl] at hN
    generalize mRun L rt 3 4 3 0 (mustS L rt (if lg_cmp (sX11_word S.2.1 S.2.2.1 S.2.2.2.1 0 rt) (lL (wC 0)) = 0 then 1 else 0) S) vs = R at hN ⊢
    rcases hN with ⟨p'', tk'', v'', st'', dn', z1, z2, z3, z4, z5, z6⟩ | ⟨φ, x, pl, tk'', v'', dn', z1, z2⟩
    · left
      rw [z2, if_neg (show ¬ (1 : Int32) = 0 by decide)]
      dsimp only
      obtain ⟨d0, d01, d02⟩ := z5 0 (by omega) (by omega)
      obtain ⟨d1, d11, d12⟩ := z5 1 (by omega) (by omega)
      obtain ⟨d2, d21, d22⟩ := z5 2 (by omega) (by omega)
      rw [show (tbF 3 0).toInt = 1 from by decide] at d01
      rw [show (tbF 4 0).toInt = 99 from by decide] at d02
      rw [show (tbF 3 1).toInt = 1 from by decide] at d11
      rw [show (tbF 4 1).toInt = 20 from by decide] at d12
      rw [show (tbF 3 2).toInt = 0 from by decide] at d21
      rw [show (tbF 4 2).toInt = 20 from by decide] at d22
      rw [d0, d1, d2]
      rw [d0] at d01 d02
      rw [d1] at d11 d12
      rw [d2] at d21 d22
      refine ⟨p'', _, _, _, dn', rfl, z3, bd_int (by omega) (by omega), ?_, bd_int d21 (by omega)⟩
      obtain ⟨d, hd, ed⟩ := pu_ex (x := R.1 1) (b := 20) (by omega) (by omega)
      rw [ed, pu_toInt (by omega)] at d11
      exact ⟨d, by omega, hd, ed⟩
    · right
      rw [z1, if_pos (show (0 : Int32) = 0 from rfl)]
      exact ⟨φ, x, pl, _, _, dn', rfl, z2⟩
  · right
    rw [y1, if_pos (show (0 : Int32) = 0 from rfl)]
    exact ⟨1, x, pl, _, _, dn, rfl, mRun_bad 3 0 _ _ y2⟩
theorem TP.start (h : TP L c pb rt) {p : Nat} {S : rS} (hS : okS L rt p S) (f dn vs : Nat → Int32) :
    ∃ R : (Nat → Int32) × rS, R = mRun L rt 5 6 3 0 (mustS L rt (if lg_cmp (sX11_word S.2.1 S.2.2.1 S.2.2.2.1 0 rt) (lL (wC 1)) = 0 then 1 else 0) S) vs ∧
    ((∃ (p' : Nat) (tk v st : Int32) (dn' : Nat → Int32), sX4_readStart f (nI L) pb (nI p) 0 dn = (1, upd (upd (upd (upd f 6 (R.1 0)) 7 (R.1 1)) 8 (R.1 2)) 9 (R.1 0), nI p', tk, v, st, 0, dn') ∧ okS L rt p' R.2 ∧ bd (R.1 0) 99 ∧ bd (R.1 1) 99 ∧ bd (R.1 2) 99) ∨
     (∃ (φ x pl tk v : Int32) (dn' : Nat → Int32), sX4_readStart f (nI L) pb (nI p) 0 dn = (0, f, pl, tk, v, x, φ, dn') ∧ badS φ x R.2)) := by
  refine ⟨_, rfl, ?_⟩
  unfold sX4_readStart
  rw [ltd]
  rcases h.taken hS (iw := 1) (by omega) with ⟨p', v, st, tk, hp', y1, y2⟩ | ⟨x, pl, tk, v, y1, y2⟩
  · rw [y1, if_neg (show ¬ (1 : Int32) = 0 by decide), ltd]
    dsimp only
    unfold sX4_takeNumbers
    have hN := h.nums (a := 5) (b := 6) (k := 3) rfl rfl (by omega) 3 0 6 p' _ tk v st dn vs (by omega) (by omega) y2
    rw [show nI 0 = (0 : Int32) from rfl] at hN
    generalize mRun L rt 5 6 3 0 (mustS L rt (if lg_cmp (sX11_word S.2.1 S.2.2.1 S.2.2.2.1 0 rt) (lL (wC 1)) = 0 then 1 else 0) S) vs = R at hN ⊢
    rcases hN with ⟨p'', tk'', v'', st'', dn', z1, z2, z3, z4, z5, z6⟩ | ⟨φ, x, pl, tk'', v'', dn', z1, z2⟩
    · left
      rw [z2, if_neg (show ¬ (1 : Int32) = 0 by decide)]
      dsimp only
      obtain ⟨d0, d01, d02⟩ := z5 0 (by omega) (by omega)
      obtain ⟨d1, d11, d12⟩ := z5 1 (by omega) (by omega)
      obtain ⟨d2, d21, d22⟩ := z5 2 (by omega) (by omega)
      rw [show (tbF 5 0).toInt = 0 from by decide] at d01
      rw [show (tbF 6 0).toInt = 99 from by decide] at d02
      rw [show (tbF 5 1).toInt = 0 from by decide] at d11
      rw [show (tbF 6 1).toInt = 99 from by decide] at d12
      rw [show (tbF 5 2).toInt = 0 from by decide] at d21
      rw [show (tbF 6 2).toInt = 99 from by decide] at d22
      rw [d0, d1, d2]
      rw [d0] at d01 d02
      rw [d1] at d11 d12
      rw [d2] at d21 d22
      exact ⟨p'', _, _, _, dn', rfl, z3, bd_int d01 d02, bd_int d11 d12, bd_int d21 d22⟩
    · right
      rw [z1, if_pos (show (0 : Int32) = 0 from rfl)]
      exact ⟨φ, x, pl, _, _, dn', rfl, z2⟩
  · right
    rw [y1, if_pos (show (0 : Int32) = 0 from rfl)]
    exact ⟨1, x, pl, _, _, dn, rfl, mRun_bad 3 0 _ _ y2⟩
theorem land129 (S : rS) (ns : Nat → Int32) : ∃ x : Int32, lX11_land_129 (nI L) rt 4 0 S.1 S.2.1 S.2.2.1 S.2.2.2.1 S.2.2.2.2.1 S.2.2.2.2.2 ns = (x, (numS L rt 0 99 (numS L rt 0 99 (numS L rt 0 99 S).2).2).2.1, (numS L rt 0 99 (numS L rt 0 99 (numS L rt 0 99 S).2).2).2.2.1, (numS L rt 0 99 (numS L rt 0 99 (numS L rt 0 99 S).2).2).2.2.2.1, (numS L rt 0 99 (numS L rt 0 99 (numS L rt 0 99 S).2).2).2.2.2.2.1, (numS L rt 0 99 (numS L rt 0 99 (numS L rt 0 99 S).2).2).2.2.2.2.2.1, (numS L rt 0 99 (numS L rt 0 99 (numS L rt 0 99 S).2).2).2.2.2.2.2.2, upd (upd (upd ns 0 (numS L rt 0 99 S).1) 1 (numS L rt 0 99 (numS L rt 0 99 S).2).1) 2 (numS L rt 0 99 (numS L rt 0 99 (numS L rt 0 99 S).2).2).1) := by
  refine ⟨0 + 1 + 1 + 1, ?_⟩
  rw [lX11_land_129, if_neg (show ¬ (3 : Int32) ≤ 0 by decide), ltd, ltd, ltd]
  have e0 : sX11_numberIn 0 99 (nI L) S.1 S.2.1 S.2.2.1 S.2.2.2.1 S.2.2.2.2.1 S.2.2.2.2.2 rt = numS L rt 0 99 S := rfl
  rw [e0]
  generalize numS L rt 0 99 S = s1
  rw [lX11_land_129, if_neg (show ¬ (3 : Int32) ≤ 0 + 1 by decide), ltd, ltd, ltd]
  have e1 : sX11_numberIn 0 99 (nI L) s1.2.1 s1.2.2.1 s1.2.2.2.1 s1.2.2.2.2.1 s1.2.2.2.2.2.1 s1.2.2.2.2.2.2 rt = numS L rt 0 99 s1.2 := rfl
  rw [e1]
  generalize numS L rt 0 99 s1.2 = s2
  rw [lX11_land_129, if_neg (show ¬ (3 : Int32) ≤ 0 + 1 + 1 by decide), ltd, ltd, ltd]
  have e2 : sX11_numberIn 0 99 (nI L) s2.2.1 s2.2.2.1 s2.2.2.2.1 s2.2.2.2.2.1 s2.2.2.2.2.2.1 s2.2.2.2.2.2.2 rt = numS L rt 0 99 s2.2 := rfl
  rw [e2]
  generalize numS L rt 0 99 s2.2 = s3
  rw [lX11_land_129, if_pos (show (3 : Int32) ≤ 0 + 1 + 1 + 1 by decide)]
  rw [show ((0 : Int32)).toNatClampNeg = 0 from by decide, show ((0 : Int32) + 1).toNatClampNeg = 1 from by decide, show ((0 : Int32) + 1 + 1).toNatClampNeg = 2 from by decide]
end
abbrev cLT := Int32 × (Nat → Int32) × (Nat → Nat → Int32) × (Nat → Int32) × Int32 × Int32 × Int32 × Int32 × Int32 × Int32 × (Nat → Int32) × Int32 × Int32
abbrev mLT := Int32 × Int32 × Int32 × Int32 × Int32 × Int32 × Int32 × Int32 × Int32 × Int32 × Int32 × Int32 × Int32 × Int32 × Int32 × Int32 × Int32 × Int32 × (Nat → Int32) × (Nat → Int32) × (Nat → Int32) × (Nat → Int32) × (Nat → Int32) × (Nat → Int32) × (Nat → Int32)
def LA (g ft isThere kinds print low high lot latest : Int32) (market of state : Nat → Int32) (kv : Nat → Nat → Int32) (C : cLT) (M : mLT) : Prop :=
  C.1 = M.1 ∧ C.2.2.2.2.1 = 0 ∧ M.2.2.2.2.2.2.2.2.2.1 = 0 ∧ kZ kv C.2.2.1 ∧
  ((C.2.2.2.2.2.2.2.2.2.1 = 0 ∧ C.2.2.2.2.2.2.2.2.2.2.2.1 = 1 ∧ C.2.2.2.2.2.2.2.2.2.2.2.2 = ft ∧ M.2.2.1 = 1 ∧ M.2.2.2.2.2.2.2.2.2.2.1 = latest ∧ ∃ K : Nat, M.2.2.2.1 = nI K ∧ LD K 0 M.2.2.2.2.2.1 M.2.2.2.2.2.2.1 M.2.2.2.2.2.2.2.1 M.2.2.2.2.2.2.2.2.1 M.2.2.2.2.2.2.2.2.2.2.2.2.2.2.2.2.2.2.1 M.2.2.2.2.2.2.2.2.2.2.2.2.2.2.2.2.2.2.2.1 M.2.2.2.2.2.2.2.2.2.2.2.2.2.2.2.2.2.2.2.2.2.2.2.2 C.2.1 C.2.2.1 C.2.2.2.1) ∨
   (¬ C.2.2.2.2.2.2.2.2.2.1 = 0 ∧ C.2.2.2.2.2.2.2.2.2.2.2.1 = g ∧ C.2.2.2.2.2.2.2.2.2.2.2.2 = M.2.2.2.2.2.2.2.2.2.2.1 ∧ M.2.2.1 = isThere ∧ M.2.2.2.1 = kinds ∧ M.2.2.2.2.2.1 = print ∧ M.2.2.2.2.2.2.1 = low ∧ M.2.2.2.2.2.2.2.1 = high ∧ M.2.2.2.2.2.2.2.2.1 = lot ∧ M.2.2.2.2.2.2.2.2.2.2.2.2.2.2.2.2.2.2.1 = market ∧ M.2.2.2.2.2.2.2.2.2.2.2.2.2.2.2.2.2.2.2.1 = of ∧ M.2.2.2.2.2.2.2.2.2.2.2.2.2.2.2.2.2.2.2.2.2.2.2.2 = state))
theorem cp217 (u : mKT) (of : Nat → Int32) : (lX11_land_217 u 31 0 of).2 = colTo 30 u.2.2.2.2.2.2.2.1 of := by
  have key := loop_run (fun n i (s : Nat → Int32) => lX11_land_217 u n (nI i) s) (fun i => colTo i u.2.2.2.2.2.2.2.1 of) 30 ?_ 1 30 (Nat.le_refl _)
  · have key' : lX11_land_217 u 31 (nI 0) (colTo 0 u.2.2.2.2.2.2.2.1 of) = lX11_land_217 u 1 (nI 30) (colTo 30 u.2.2.2.2.2.2.2.1 of) := key
    rw [colTo_0, show nI 0 = (0 : Int32) from rfl] at key'
    rw [key', lX11_land_217, if_pos (show (30 : Int32) ≤ nI 30 from Int32.le_refl _)]
  · intro n i hi
    show lX11_land_217 u (n + 1) (nI i) (colTo i u.2.2.2.2.2.2.2.1 of) = lX11_land_217 u n (nI (i + 1)) (colTo (i + 1) u.2.2.2.2.2.2.2.1 of)
    rw [lX11_land_217, if_neg (show ¬ (30 : Int32) ≤ nI i from fun q => by have := (pu_le (a := 30) (by omega) (by omega)).mp q; omega), pu_nat (show i < 2147483648 by omega), ltd, ltd, pu_succ, colTo_up rfl]
theorem cp304 (a market : Nat → Int32) : (lX11_land_304 a 4 0 market).2 = colTo 3 a market := by
  have key := loop_run (fun n i (s : Nat → Int32) => lX11_land_304 a n (nI i) s) (fun i => colTo i a market) 3 ?_ 1 3 (Nat.le_refl _)
  · have key' : lX11_land_304 a 4 (nI 0) (colTo 0 a market) = lX11_land_304 a 1 (nI 3) (colTo 3 a market) := key
    rw [colTo_0, show nI 0 = (0 : Int32) from rfl] at key'
    rw [key', lX11_land_304, if_pos (show (3 : Int32) ≤ nI 3 from Int32.le_refl _)]
  · intro n i hi
    show lX11_land_304 a (n + 1) (nI i) (colTo i a market) = lX11_land_304 a n (nI (i + 1)) (colTo (i + 1) a market)
    rw [lX11_land_304, if_neg (show ¬ (3 : Int32) ≤ nI i from fun q => by have := (pu_le (a := 3) (by omega) (by omega)).mp q; omega), pu_nat (show i < 2147483648 by omega), ltd, ltd, pu_succ, colTo_up rfl]
def stN (ns nco : Nat → Int32) (k : Nat) : Int32 := if 3 ≤ k then (if 7 ≤ k ∧ k ≤ 11 then nco (k - 7) else 0) else ns k
theorem cp243 (u27 : Int32 × Int32 × Int32 × Int32 × Int32 × Int32 × Int32 × (Nat → Int32)) (u : mKT) (state : Nat → Int32) : (lX11_land_243 u27 u 18 0 state).2 = colTo 17 (stN u27.2.2.2.2.2.2.2 u.2.2.2.2.2.2.2.2) state := by
  have key := loop_run (fun n i (s : Nat → Int32) => lX11_land_243 u27 u n (nI i) s) (fun i => colTo i (stN u27.2.2.2.2.2.2.2 u.2.2.2.2.2.2.2.2) state) 17 ?_ 1 17 (Nat.le_refl _)
  · have key' : lX11_land_243 u27 u 18 (nI 0) (colTo 0 (stN u27.2.2.2.2.2.2.2 u.2.2.2.2.2.2.2.2) state) = lX11_land_243 u27 u 1 (nI 17) (colTo 17 (stN u27.2.2.2.2.2.2.2 u.2.2.2.2.2.2.2.2) state) := key
    rw [colTo_0, show nI 0 = (0 : Int32) from rfl] at key'
    rw [key', lX11_land_243, if_pos (show (17 : Int32) ≤ nI 17 from Int32.le_refl _)]
  · intro n i hi
    show lX11_land_243 u27 u (n + 1) (nI i) (colTo i (stN u27.2.2.2.2.2.2.2 u.2.2.2.2.2.2.2.2) state) = lX11_land_243 u27 u n (nI (i + 1)) (colTo (i + 1) (stN u27.2.2.2.2.2.2.2 u.2.2.2.2.2.2.2.2) state)
    rw [lX11_land_243, if_neg (show ¬ (17 : Int32) ≤ nI i from fun q => by have := (pu_le (a := 17) (by omega) (by omega)).mp q; omega), pu_nat (show i < 2147483648 by omega)]
    simp only [ltd]
    rw [pu_succ]
    have e : (if 3 ≤ nI i then (if sX11_in (nI i).toInt64 7 11 = 0 then (0 : Int32) else u.2.2.2.2.2.2.2.2 (nI i - 7).toNatClampNeg) else u27.2.2.2.2.2.2.2 i) = stN u27.2.2.2.2.2.2.2 u.2.2.2.2.2.2.2.2 i := by
      unfold stN
      by_cases c3 : 3 ≤ i
      · rw [if_pos (show (3 : Int32) ≤ nI i from (pu_le (a := 3) (by omega) (by omega)).mpr c3), if_pos c3]
        by_cases c7 : 7 ≤ i ∧ i ≤ 11
        · rw [in_yes (a := 7) (b := 11) (by decide) (by decide) (by rw [pu_toInt (by omega)]; omega) (by rw [pu_toInt (by omega)]; omega), if_neg (show ¬ (1 : Int32) = 0 by decide), if_pos c7, show (7 : Int32) = nI 7 from rfl, pu_sub (by omega), pu_nat (by omega)]
        · rw [in_no (a := 7) (b := 11) (by decide) (by decide) (by rw [pu_toInt (by omega)]; omega), if_pos (show (0 : Int32) = 0 from rfl), if_neg c7]
      · rw [if_neg (show ¬ (3 : Int32) ≤ nI i from fun q => c3 ((pu_le (a := 3) (by omega) (by omega)).mp q)), if_neg c3]
    rw [e, colTo_up rfl]
theorem lt_st {α β : Type} {v : α} {f : α → β} {r : β} (w : α) (h : v = w) (k : f w = r) : lt v f = r := by subst h; exact k
section
variable {L : Nat} {c : Nat → Nat} {pb rt : Nat → Int32}
theorem TP.land (h : TP L c pb rt) (f : Nat → Int32) (kv : Nat → Nat → Int32) (mv dn : Nat → Int32) (g ft isThere kinds print low high lot latest fAt : Int32) (market of nm ns nof nco state : Nat → Int32) (hz : ∀ j, j < 5 → kv j 7 = 0 ∨ kv j 7 = 1) :
    LA g ft isThere kinds print low high lot latest market of state kv (sX10_land f kv mv (nI L) pb dn g ft) (sX11_land isThere kinds print low high lot (nI L) latest fAt market of nm ns nof nco state rt) := by
  have hS0 : okS L rt 0 ((sX11_next (nI L) 0 rt).1, (sX11_next (nI L) 0 rt).2.1, (sX11_next (nI L) 0 rt).2.2.1, (sX11_next (nI L) 0 rt).2.2.2, 0, fAt) := ⟨Nat.zero_le _, fAt, rfl⟩
  generalize hC : sX10_land f kv mv (nI L) pb dn g ft = C
  unfold sX11_land
  refine lt_Q (Q := LA g ft isThere kinds print low high lot latest market of state kv C) (fun u1 h1 => ?_)
  rw [← h1] at hS0
  refine lt_Q (Q := LA g ft isThere kinds print low high lot latest market of state kv C) (fun u2 h2 => ?_)
  refine lt_Q (Q := LA g ft isThere kinds print low high lot latest market of state kv C) (fun y3 h3 => ?_)
  refine lt_Q (Q := LA g ft isThere kinds print low high lot latest market of state kv C) (fun u5 h5 => ?_)
  refine lt_Q (Q := LA g ft isThere kinds print low high lot latest market of state kv C) (fun u6 h6 => ?_)
  refine lt_Q (Q := LA g ft isThere kinds print low high lot latest market of state kv C) (fun ar8 h8 => ?_)
  refine lt_Q (Q := LA g ft isThere kinds print low high lot latest market of state kv C) (fun u9 h9 => ?_)
  refine lt_Q (Q := LA g ft isThere kinds print low high lot latest market of state kv C) (fun ar11 h11 => ?_)
  refine lt_Q (Q := LA g ft isThere kinds print low high lot latest market of state kv C) (fun u12 h12 => ?_)
  refine lt_Q (Q := LA g ft isThere kinds print low high lot latest market of state kv C) (fun ar14 h14 => ?_)
  refine lt_Q (Q := LA g ft isThere kinds print low high lot latest market of state kv C) (fun u15 h15 => ?_)
  refine lt_Q (Q := LA g ft isThere kinds print low high lot latest market of state kv C) (fun y16 h16 => ?_)
  refine lt_Q (Q := LA g ft isThere kinds print low high lot latest market of state kv C) (fun u27 h27 => ?_)
  refine lt_Q (Q := LA g ft isThere kinds print low high lot latest market of state kv C) (fun u28 h28 => ?_)
  refine lt_Q (Q := LA g ft isThere kinds print low high lot latest market of state kv C) (fun u32 h32 => ?_)
  have c0 : (120265298896244 : Int64) = lL (wC 0) := by decide
  have c1 : (495873782388 : Int64) = lL (wC 1) := by decide
  rw [c0] at h3
  have n6 : numS L rt (tbF 3 0) (tbF 4 0) u5 = u6 := h6.symm
  have n9 : numS L rt (tbF 3 1) (tbF 4 1) u6.2 = u9 := h9.symm
  have n12 : numS L rt (tbF 3 2) (tbF 4 2) u9.2 = u12 := h12.symm
  have n15 : endS L rt u12.2 = u15 := h15.symm
  have hR1 : mRun L rt 3 4 3 0 u5 nm = (ar14, u15) := by
    show mRun L rt 3 4 2 1 (numS L rt (tbF 3 0) (tbF 4 0) u5).2 (upd nm 0 (numS L rt (tbF 3 0) (tbF 4 0) u5).1) = _
    rw [n6, ← h8]
    show mRun L rt 3 4 1 2 (numS L rt (tbF 3 1) (tbF 4 1) u6.2).2 (upd ar8 1 (numS L rt (tbF 3 1) (tbF 4 1) u6.2).1) = _
    rw [n9, ← h11]
    show mRun L rt 3 4 0 3 (numS L rt (tbF 3 2) (tbF 4 2) u9.2).2 (upd ar11 2 (numS L rt (tbF 3 2) (tbF 4 2) u9.2).1) = _
    rw [n12, ← h14]
    show (ar14, endS L rt u12.2) = _
    rw [n15]
  obtain ⟨x129, e129⟩ := land129 (L := L) (rt := rt) y16 ns
  rw [e129] at h27
  have t50 : tbF 5 0 = 0 := rfl
  have t51 : tbF 5 1 = 0 := rfl
  have t52 : tbF 5 2 = 0 := rfl
  have t60 : tbF 6 0 = 99 := rfl
  have t61 : tbF 6 1 = 99 := rfl
  have t62 : tbF 6 2 = 99 := rfl
  have hR2 : mRun L rt 5 6 3 0 y16 ns = (u27.2.2.2.2.2.2.2, u28) := by
    rw [mRun, t50, t60]
    generalize numS L rt 0 99 y16 = s1 at h27 ⊢
    rw [mRun, t51, t61]
    generalize numS L rt 0 99 s1.2 = s2 at h27 ⊢
    rw [mRun, t52, t62]
    generalize numS L rt 0 99 s2.2 = s3 at h27 ⊢
    rw [mRun, h28, h27]
    rfl
  have e5 : u5 = mustS L rt (if lg_cmp (sX11_word u1.2.1 u1.2.2.1 u1.2.2.2 0 rt) (lL (wC 0)) = 0 then 1 else 0) (u1.1, u1.2.1, u1.2.2.1, u1.2.2.2, 0, fAt) := by
    rw [h5, h3, h2]
    rfl
  have u32S : u32 = lX11_land_157 (nI L) rt 12 0 u28.1 u28.2.1 u28.2.2.1 u28.2.2.2.1 u28.2.2.2.2.1 u28.2.2.2.2.2 nof nco := h32
  have bad32 : ∀ φ x, badS φ x u28 → badS φ x (mS u32) := by
    intro φ x hb
    rw [u32S, lX11_land_157, if_neg hb.ne.1]
    exact hb
  have bad28 : ∀ φ x, badS φ x u15 → badS φ x u28 := by
    intro φ x hb
    have e16 : y16 = u15 := by rw [h16, if_neg hb.ne.1, et6]
    have := mRun_bad (L := L) (rt := rt) (a := 5) (b := 6) 3 0 y16 ns (by rw [e16]; exact hb)
    rw [hR2] at this
    exact this
  unfold sX10_land at hC
  rw [ltd] at hC
  have ecl : sX2_clear f mv = (upd (upd (upd f 2 0) 10 0) 11 0, sX3_forget (sX3_order 0 0 0 mv)) := by unfold sX2_clear; rw [ltd, ltd]
  obtain ⟨R1, eR1, hM⟩ := h.market hS0 (upd (upd (upd f 2 0) 10 0) 11 0) dn nm
  dsimp only at eR1
  rw [← e5, hR1] at eR1
  subst eR1
  rw [show nI 0 = (0 : Int32) from rfl] at hM
  have fin : ∀ (φ x : Int32) (U : (Nat → Int32) × (Nat → Nat → Int32) × (Nat → Int32) × Int32 × Int32 × Int32 × Int32 × Int32 × (Nat → Int32)), badS φ x (mS u32) → U.2.2.2.2.2.2.2.1 = φ → U.2.2.2.2.2.2.1 = x → kZ kv U.2.1 → (if U.2.2.2.2.2.2.2.1 = 0 then (U.1 2, U.1, U.2.1, U.2.2.1, 0, U.2.2.2.1, U.2.2.2.2.1, U.2.2.2.2.2.1, U.2.2.2.2.2.2.1, U.2.2.2.2.2.2.2.1, U.2.2.2.2.2.2.2.2, 1, ft) else ((-1000100 : Int32) - U.2.2.2.2.2.2.1, U.1, U.2.1, U.2.2.1, 0, U.2.2.2.1, U.2.2.2.2.1, U.2.2.2.2.2.1, U.2.2.2.2.2.2.1, U.2.2.2.2.2.2.2.1, U.2.2.2.2.2.2.2.2, g, U.2.2.2.2.2.2.2.1)) = C →
      LA g ft isThere kinds print low high lot latest market of state kv C (-1000100 - u32.2.2.2.2.2.2.1, 0, isThere, kinds, u32.1, print, low, high, lot, 0, u32.2.2.2.2.2.1, nI L, u32.2.1, u32.2.2.1, u32.2.2.2.1, u32.2.2.2.2.1, u32.2.2.2.2.2.1, u32.2.2.2.2.2.2.1, market, of, ar14, u27.2.2.2.2.2.2.2, u32.2.2.2.2.2.2.2.1, u32.2.2.2.2.2.2.2.2, state) := by
    intro φ x U hb a1 a2 a3 a4
    have hb1 : u32.2.2.2.2.2.1 = φ := hb.1
    have hb2 : u32.2.2.2.2.2.2.1 = x := hb.2.1
    have hne : ¬ φ = 0 := by rw [← hb1]; exact hb.ne.1
    rw [a1, if_neg hne] at a4
    rw [← a4]
    refine ⟨?_, rfl, rfl, a3, Or.inr ⟨?_, rfl, ?_, rfl, rfl, rfl, rfl, rfl, rfl, rfl, rfl, rfl⟩⟩
    · dsimp only; rw [a2, hb2]
    · exact hne
    · dsimp only; rw [hb1]
  have le0 : ∀ φ x, badS φ x (mS u32) → ¬ u32.2.2.2.2.2.1 ≤ 0 := fun φ x hb => hb.ne.2
  rcases hM with ⟨p1, tk, v, st, dn1, m1, m2, b1, b2, b3⟩ | ⟨φ, x, pl, tk, v, dn1, m1, m2⟩
  · dsimp only at m1 m2 b1 b2 b3
    have fa15 : u15.2.2.2.2.1 = 0 := by obtain ⟨-, a, e'⟩ := m2; rw [e']
    have e16 : y16 = mustS L rt (if lg_cmp (sX11_word u15.2.1 u15.2.2.1 u15.2.2.2.1 0 rt) (lL (wC 1)) = 0 then 1 else 0) u15 := by
      rw [h16, if_pos fa15, ltd, ltd, ltd, et6, fa15, c1]
      unfold mustS
      rw [fa15]
    obtain ⟨R2, eR2, hM2⟩ := h.start m2 (upd (upd (upd (upd (upd (upd f 2 0) 10 0) 11 0) 3 (ar14 0)) 4 (ar14 1)) 5 (ar14 2)) dn1 ns
    rw [← e16, hR2] at eR2
    subst eR2
    rcases hM2 with ⟨p2, tk2, v2, st2, dn2, k1, k2, d1, d2, d3⟩ | ⟨φ, x, pl, tk2, v2, dn2, k1, k2⟩
    · dsimp only at k1 k2 d1 d2 d3
      generalize hF : upd (upd (upd (upd (upd (upd (upd (upd (upd (upd f 2 0) 10 0) 11 0) 3 (ar14 0)) 4 (ar14 1)) 5 (ar14 2)) 6 (u27.2.2.2.2.2.2.2 0)) 7 (u27.2.2.2.2.2.2.2 1)) 8 (u27.2.2.2.2.2.2.2 2)) 9 (u27.2.2.2.2.2.2.2 0) = F at k1
      have hK := h.kinds (kv0 := kv) (f0 := F) 5 0 7 12 p2 u28 tk2 v2 st2 F kv dn2 nof nco (by omega) (by omega) (by omega) k2 (by rw [← hF]; rfl) (fun _ _ => rfl) (fun j => Or.inl rfl) (fun j hj => by omega)
      rw [show nI 0 = (0 : Int32) from rfl, ← u32S] at hK
      obtain ⟨U, eU⟩ : ∃ U, U = lX4_readInto_38 (nI L) pb 7 0 1 F kv (nI p2) tk2 v2 st2 0 dn2 := ⟨_, rfl⟩
      rw [← eU] at hK
      have eI : sX4_readInto f kv mv (nI L) pb dn = (U.2.2.1, U.2.2.2.1, sX3_forget (sX3_order 0 0 0 mv), U.2.2.2.2.1, U.2.2.2.2.2.1, U.2.2.2.2.2.2.1, U.2.2.2.2.2.2.2.1, U.2.2.2.2.2.2.2.2.1, U.2.2.2.2.2.2.2.2.2) := by
        unfold sX4_readInto
        refine lt_st _ ecl ?_
        refine lt_st _ m1 ?_
        refine lt_st (1, F, nI p2, tk2, v2, st2, 0, dn2) ?_ ?_
        · rw [if_neg (show ¬ (1 : Int32) = 0 by decide)]
          refine lt_st _ k1 ?_
          exact if_neg (show ¬ (1 : Int32) = 0 by decide)
        · refine lt_st U eU.symm ?_
          rfl
      rw [eI] at hC
      dsimp only at hC
      obtain ⟨kz, ⟨K, hK5, w1, w2, w3, w4, w5, w6⟩ | hb⟩ := hK
      · have w5' : u32.2.2.2.2.2.1 = 0 := w5
        rw [if_pos (show u32.2.2.2.2.2.1 ≤ 0 by rw [w5']; exact Int32.le_refl _)]
        rw [ltd, ltd, ltd, cp217, cp243, cp304]
        rw [w3] at hC
        simp only [if_true] at hC
        rw [← hC]
        have w4' : u32.1 = nI K := w4
        have hzz : ∀ j, j < 5 → U.2.2.2.1 j 7 = 0 ∨ U.2.2.2.1 j 7 = 1 := by
          intro j hj
          rcases kz j with z | z
          · rw [z]; exact hz j hj
          · exact Or.inl z
        refine ⟨?_, rfl, rfl, kz, Or.inl ⟨rfl, rfl, rfl, rfl, rfl, K, w4', ?_⟩⟩
        · dsimp only; rw [w1, w4']
        dsimp only
        have F3 : F 3 = ar14 0 := by rw [← hF]; rfl
        have F4 : F 4 = ar14 1 := by rw [← hF]; rfl
        have F5 : F 5 = ar14 2 := by rw [← hF]; rfl
        have F6 : F 6 = u27.2.2.2.2.2.2.2 0 := by rw [← hF]; rfl
        have F7 : F 7 = u27.2.2.2.2.2.2.2 1 := by rw [← hF]; rfl
        have F8 : F 8 = u27.2.2.2.2.2.2.2 2 := by rw [← hF]; rfl
        have F9 : F 9 = u27.2.2.2.2.2.2.2 0 := by rw [← hF]; rfl
        have F10 : F 10 = 0 := by rw [← hF]; rfl
        have F11 : F 11 = 0 := by rw [← hF]; rfl
        have sN : ∀ k, k < 17 → colTo 17 (stN u27.2.2.2.2.2.2.2 u32.2.2.2.2.2.2.2.2) state k = stN u27.2.2.2.2.2.2.2 u32.2.2.2.2.2.2.2.2 k := fun k hk => colTo_at hk
        have s0 : colTo 17 (stN u27.2.2.2.2.2.2.2 u32.2.2.2.2.2.2.2.2) state 0 = u27.2.2.2.2.2.2.2 0 := sN 0 (by omega)
        have s1 : colTo 17 (stN u27.2.2.2.2.2.2.2 u32.2.2.2.2.2.2.2.2) state 1 = u27.2.2.2.2.2.2.2 1 := sN 1 (by omega)
        have s2 : colTo 17 (stN u27.2.2.2.2.2.2.2 u32.2.2.2.2.2.2.2.2) state 2 = u27.2.2.2.2.2.2.2 2 := sN 2 (by omega)
        have s3 : colTo 17 (stN u27.2.2.2.2.2.2.2 u32.2.2.2.2.2.2.2.2) state 3 = 0 := sN 3 (by omega)
        have s4 : colTo 17 (stN u27.2.2.2.2.2.2.2 u32.2.2.2.2.2.2.2.2) state 4 = 0 := sN 4 (by omega)
        have s5 : colTo 17 (stN u27.2.2.2.2.2.2.2 u32.2.2.2.2.2.2.2.2) state 5 = 0 := sN 5 (by omega)
        have s6 : colTo 17 (stN u27.2.2.2.2.2.2.2 u32.2.2.2.2.2.2.2.2) state 6 = 0 := sN 6 (by omega)
        have s7 : ∀ j, j < K → colTo 17 (stN u27.2.2.2.2.2.2.2 u32.2.2.2.2.2.2.2.2) state (7 + j) = u32.2.2.2.2.2.2.2.2 j := by
          intro j hj
          rw [sN (7 + j) (by omega)]
          unfold stN
          rw [if_pos (by omega), if_pos ⟨by omega, by omega⟩, show 7 + j - 7 = j by omega]
        have s12 : ∀ j, j < K → colTo 17 (stN u27.2.2.2.2.2.2.2 u32.2.2.2.2.2.2.2.2) state (12 + j) = 0 := by
          intro j hj
          rw [sN (12 + j) (by omega)]
          unfold stN
          rw [if_pos (by omega), if_neg (by omega)]
        have of30 : ∀ j, j < K → ∀ x, x < 6 → colTo 30 u32.2.2.2.2.2.2.2.1 of (6 * j + x) = U.2.2.2.1 j x := by
          intro j hj x hx
          rw [colTo_at (by omega)]
          exact (w6 j hj).2.1 x hx
        have mk0 : colTo 3 ar14 market 0 = ar14 0 := colTo_at (by omega)
        have mk1 : colTo 3 ar14 market 1 = ar14 1 := colTo_at (by omega)
        have mk2 : colTo 3 ar14 market 2 = ar14 2 := colTo_at (by omega)
        have z0 : bd (0 : Int32) (99 * 0) := ⟨0, by omega, rfl⟩
        refine LD.mk' hK5 w1 ?_ ?_ ?_ ?_ ?_ ?_ ?_ ?_ ?_ rfl rfl rfl ?_ ?_ ?_ ?_ ?_ ?_ ?_ ?_ ?_ ?_ ?_ ?_ z99 ?_ ?_ ?_ ?_ ?_ hzz
        · rw [w2 3 (by omega), F3, mk0]
        · rw [w2 4 (by omega), F4, mk1]
        · rw [w2 5 (by omega), F5, mk2]
        · rw [w2 6 (by omega), F6, s0]
        · rw [w2 7 (by omega), F7, s1]
        · rw [w2 8 (by omega), F8, s2]
        · rw [w2 9 (by omega), F9, s0]
        · rw [w2 10 (by omega), F10, s3]
        · rw [w2 11 (by omega), F11, s6]
        · rw [s4]; rfl
        · rw [s5]; rfl
        · intro j hj x hx; exact (of30 j hj x hx).symm
        · intro j hj; rw [s7 j hj]; exact (w6 j hj).2.2.1.symm
        · intro j hj; rw [s12 j hj]; exact (w6 j hj).1
        · rw [mk0]; exact b1
        · obtain ⟨d, x1, x2, x3⟩ := b2; exact ⟨d, x1, x2, mk1.trans x3⟩
        · rw [mk2]; exact b3
        · rw [s0]; exact d1
        · rw [s1]; exact d2
        · rw [s2]; exact d3
        · rw [s0]; exact d1
        · rw [s4]; exact z0
        · intro j hj
          obtain ⟨-, -, -, -, x2, x3, x4, x5, -⟩ := w6 j hj
          rw [of30 j hj 2 (by omega), of30 j hj 3 (by omega), of30 j hj 4 (by omega), of30 j hj 5 (by omega)]
          exact ⟨x2, x3, x4, x5⟩
        · intro j hj
          have e0 : colTo 30 u32.2.2.2.2.2.2.2.1 of (6 * j) = U.2.2.2.1 j 0 := of30 j hj 0 (by omega)
          rw [e0, of30 j hj 1 (by omega)]
          exact (w6 j hj).2.2.2.1
        · intro j hj
          rw [s7 j hj, (w6 j hj).2.2.1]
          obtain ⟨x1, x2⟩ := bd_to (w6 j hj).2.2.2.2.2.2.2.2 (by omega)
          omega
        · intro j hj _
          rw [s7 j hj, (w6 j hj).2.2.1]
          exact (bd_to (w6 j hj).2.2.2.2.2.2.2.2 (by omega)).1
      · rw [if_neg (le0 _ _ hb)]
        exact fin _ _ (U.2.2.1, U.2.2.2.1, sX3_forget (sX3_order 0 0 0 mv), U.2.2.2.2.1, U.2.2.2.2.2.1, U.2.2.2.2.2.2.1, U.2.2.2.2.2.2.2.1, U.2.2.2.2.2.2.2.2.1, U.2.2.2.2.2.2.2.2.2) hb rfl rfl kz hC
    · dsimp only at k1 k2
      have hb := bad32 φ x k2
      have eI : sX4_readInto f kv mv (nI L) pb dn = (upd (upd (upd (upd (upd (upd f 2 0) 10 0) 11 0) 3 (ar14 0)) 4 (ar14 1)) 5 (ar14 2), kv, sX3_forget (sX3_order 0 0 0 mv), pl, tk2, v2, x, φ, dn2) := by
        unfold sX4_readInto
        refine lt_st _ ecl ?_
        refine lt_st _ m1 ?_
        refine lt_st (0, upd (upd (upd (upd (upd (upd f 2 0) 10 0) 11 0) 3 (ar14 0)) 4 (ar14 1)) 5 (ar14 2), pl, tk2, v2, x, φ, dn2) ?_ ?_
        · rw [if_neg (show ¬ (1 : Int32) = 0 by decide)]
          refine lt_st _ k1 ?_
          exact if_pos rfl
        · refine lt_st (0, 0, upd (upd (upd (upd (upd (upd f 2 0) 10 0) 11 0) 3 (ar14 0)) 4 (ar14 1)) 5 (ar14 2), kv, pl, tk2, v2, x, φ, dn2) ?_ ?_
          · rw [lX4_readInto_38, if_pos (show (0 : Int32) = 0 from rfl)]
          · rfl
      rw [eI] at hC
      rw [if_neg (le0 _ _ hb)]
      exact fin φ x _ hb rfl rfl (fun j => Or.inl rfl) hC
  · dsimp only at m1 m2
    have hb := bad32 φ x (bad28 φ x m2)
    have eI : sX4_readInto f kv mv (nI L) pb dn = (upd (upd (upd f 2 0) 10 0) 11 0, kv, sX3_forget (sX3_order 0 0 0 mv), pl, tk, v, x, φ, dn1) := by
      unfold sX4_readInto
      refine lt_st _ ecl ?_
      refine lt_st _ m1 ?_
      refine lt_st (0, upd (upd (upd f 2 0) 10 0) 11 0, pl, tk, v, x, φ, dn1) ?_ ?_
      · exact if_pos rfl
      · refine lt_st (0, 0, upd (upd (upd f 2 0) 10 0) 11 0, kv, pl, tk, v, x, φ, dn1) ?_ ?_
        · rw [lX4_readInto_38, if_pos (show (0 : Int32) = 0 from rfl)]
        · rfl
    rw [eI] at hC
    rw [if_neg (le0 _ _ hb)]
    exact fin φ x _ hb rfl rfl (fun j => Or.inl rfl) hC
end

def SR (sv si : Nat → Nat → Int32) (lane many item : Nat → Int32) : Prop := ∀ s, s < 8 → ((sv s 1 = 0 ∧ lane s = sv s 2 ∧ (sv s 2 = 0 ∨ sv s 2 = 1 ∨ sv s 2 = 2)) ∨ (sv s 1 = 1 ∧ lane s = -1)) ∧ many s = sv s 3 ∧ bd (sv s 3) 60 ∧ ∀ i, i < 60 → si s i = item (60 * s + i)
section
variable {sv si : Nat → Nat → Int32} {lane many item : Nat → Int32}
theorem sheet_cases (k : Int32) : (∃ s, s < 8 ∧ k = nI s ∧ sX10_isSheet k = 1 ∧ sX11_isSheet k = 1) ∨ (sX10_isSheet k = 0 ∧ sX11_isSheet k = 0) := by
  have h8 : (8 : Int32).toInt = 8 := by decide
  unfold sX10_isSheet sX11_isSheet
  rw [ltd]
  simp only [Int32.lt_iff_toInt_lt, Int32.le_iff_toInt_le, i_0, h8]
  by_cases a : k.toInt < 0
  · rw [if_pos a, in_no (a := 0) (b := 7) (by decide) (by decide) (by omega)]; exact Or.inr ⟨rfl, rfl⟩
  · rw [if_neg a]
    by_cases b : 8 ≤ k.toInt
    · rw [if_pos b, in_no (a := 0) (b := 7) (by decide) (by decide) (by omega)]; exact Or.inr ⟨rfl, rfl⟩
    · rw [if_neg b, in_yes (a := 0) (b := 7) (by decide) (by decide) (by omega) (by omega)]
      obtain ⟨s, hs, e⟩ := pu_ex (x := k) (b := 7) (by omega) (by omega)
      exact Or.inl ⟨s, by omega, e, rfl, rfl⟩
theorem SR.ln (h : SR sv si lane many item) {s : Nat} (hs : s < 8) : (sv s 1 = 0 ∧ (0 : Int32) ≤ lane s ∧ ¬ lane s < 0) ∨ (¬ sv s 1 = 0 ∧ ¬ (0 : Int32) ≤ lane s ∧ lane s < 0) := by
  obtain ⟨⟨a, b, d⟩ | ⟨a, b⟩, -⟩ := h s hs
  · refine Or.inl ⟨a, ?_, ?_⟩
    · rw [b]; rcases d with d | d | d <;> rw [d] <;> decide
    · rw [b]; rcases d with d | d | d <;> rw [d] <;> decide
  · refine Or.inr ⟨by rw [a]; decide, by rw [b]; decide, by rw [b]; decide⟩
theorem SR.hsz (h : SR sv si lane many item) : ∀ j, j < 8 → 0 ≤ (sv j 3).toInt ∧ (sv j 3).toInt ≤ 60 := fun j hj => by
  have := bd_to (h j hj).2.2.1 (by omega)
  omega
theorem SR.hmn (h : SR sv si lane many item) : ∀ j, j < 8 → 0 ≤ (many j).toInt ∧ (many j).toInt ≤ 60 := fun j hj => by
  rw [(h j hj).2.1]; exact h.hsz j hj
theorem fill_eq (x : Int32) (a : Nat → Int32) : sJ7_fill_53178 x a = colTo 60 (fun _ => x) a := by
  have key := loop_run (fun n i (s : Nat → Int32) => lJ7_fill_53178_5 x n (nI i) s) (fun i => colTo i (fun _ => x) a) 60 ?_ 1 60 (Nat.le_refl _)
  · have key' : lJ7_fill_53178_5 x 61 (nI 0) (colTo 0 (fun _ => x) a) = lJ7_fill_53178_5 x 1 (nI 60) (colTo 60 (fun _ => x) a) := key
    rw [colTo_0, show nI 0 = (0 : Int32) from rfl] at key'
    unfold sJ7_fill_53178
    rw [ltd, key', lJ7_fill_53178_5, if_pos (show (60 : Int32) ≤ nI 60 from Int32.le_refl _)]
  · intro n i hi
    show lJ7_fill_53178_5 x (n + 1) (nI i) (colTo i (fun _ => x) a) = lJ7_fill_53178_5 x n (nI (i + 1)) (colTo (i + 1) (fun _ => x) a)
    rw [lJ7_fill_53178_5, if_neg (show ¬ (60 : Int32) ≤ nI i from fun q => by have := (pu_le (a := 60) (by omega) (by omega)).mp q; omega), pu_nat (show i < 2147483648 by omega), ltd, ltd, pu_succ, colTo_up rfl]
def blk (s i : Nat) (item : Nat → Int32) : Nat → Int32 := fun n => if 60 * s ≤ n ∧ n < 60 * s + i then 0 else item n
theorem msheet_eq {s : Nat} (hs : s < 8) : lX11_sheet_65 (nI s) 61 0 item = (nI 60, blk s 60 item) := by
  have key := loop_run (fun n i (r : Nat → Int32) => lX11_sheet_65 (nI s) n (nI i) r) (fun i => blk s i item) 60 ?_ 1 60 (Nat.le_refl _)
  · have e0 : blk s 0 item = item := by funext n; unfold blk; rw [if_neg (fun q => by omega)]
    have key' : lX11_sheet_65 (nI s) 61 (nI 0) (blk s 0 item) = lX11_sheet_65 (nI s) 1 (nI 60) (blk s 60 item) := key
    rw [e0, show nI 0 = (0 : Int32) from rfl] at key'
    rw [key', lX11_sheet_65, if_pos (show (60 : Int32) ≤ nI 60 from Int32.le_refl _)]
  · intro n i hi
    show lX11_sheet_65 (nI s) (n + 1) (nI i) (blk s i item) = lX11_sheet_65 (nI s) n (nI (i + 1)) (blk s (i + 1) item)
    have e1 : (60 * nI s + nI i).toNatClampNeg = 60 * s + i := by rw [show (60 : Int32) = nI 60 from rfl, pu_mul, pu_add, pu_nat (by omega)]
    rw [lX11_sheet_65, if_neg (show ¬ (60 : Int32) ≤ nI i from fun q => by have := (pu_le (a := 60) (by omega) (by omega)).mp q; omega), e1, ltd, ltd, pu_succ]
    congr 1
    funext m
    unfold upd blk
    by_cases q : m = 60 * s + i
    · rw [if_pos q, if_pos (by omega)]
    · rw [if_neg q]
      have e : (60 * s ≤ m ∧ m < 60 * s + i) = (60 * s ≤ m ∧ m < 60 * s + (i + 1)) := propext ⟨fun z => ⟨z.1, by omega⟩, fun z => ⟨z.1, by omega⟩⟩
      simp only [e]
theorem sheet_ok (h : SR sv si lane many item) (k w nn st : Int32) : (sX10_sheet k w nn sv si st).1 = (sX11_sheet k w nn st lane many item).1 ∧ (sX10_sheet k w nn sv si st).2.2.2 = (sX11_sheet k w nn st lane many item).2.2.1 ∧ SR (sX10_sheet k w nn sv si st).2.1 (sX10_sheet k w nn sv si st).2.2.1 (sX11_sheet k w nn st lane many item).2.2.2.1 (sX11_sheet k w nn st lane many item).2.2.2.2.1 (sX11_sheet k w nn st lane many item).2.2.2.2.2 := by
  have h2 : (2 : Int32).toInt = 2 := by decide
  have h60 : (60 : Int32).toInt = 60 := by decide
  unfold sX10_sheet sX11_sheet
  simp only [ltd]
  rcases sheet_cases k with ⟨s, hs, rfl, e1, e2⟩ | ⟨e1, e2⟩
  · rw [e1, e2, if_neg (show ¬ (1 : Int32) = 0 by decide), if_neg (show ¬ (1 : Int32) = 0 by decide)]
    simp only [Int32.lt_iff_toInt_lt, Int32.le_iff_toInt_le, i_0, h2, h60]
    by_cases hw : 0 ≤ w.toInt ∧ w.toInt ≤ 2
    · rw [in_yes (a := 0) (b := 2) (by decide) (by decide) hw.1 hw.2, if_neg (show ¬ (1 : Int32) = 0 by decide), if_neg (show ¬ w.toInt < 0 by omega), if_neg (show ¬ 2 < w.toInt by omega)]
      by_cases c1 : nn.toInt ≤ 60
      · rw [if_pos c1, if_pos c1]
        by_cases c2 : 0 ≤ nn.toInt
        · rw [if_pos c2, if_pos c2, pu_nat (show s < 2147483648 by omega), msheet_eq hs]
          refine ⟨rfl, rfl, ?_⟩
          obtain ⟨c, hc, ew⟩ := pu_ex (x := w) (b := 2) hw.1 (by omega)
          intro t ht
          dsimp only
          unfold sX6_begin
          rw [ltd, fill_eq]
          dsimp only
          by_cases e : t = s
          · subst e
            rw [pu_vs, pu_vs, pu_us, pu_us]
            refine ⟨Or.inl ⟨rfl, rfl, ?_⟩, rfl, show bd nn 60 from bd_int c2 c1, ?_⟩
            · show w = 0 ∨ w = 1 ∨ w = 2
              rw [ew]
              rcases (show c = 0 ∨ c = 1 ∨ c = 2 by omega) with rfl | rfl | rfl
              · exact Or.inl rfl
              · exact Or.inr (Or.inl rfl)
              · exact Or.inr (Or.inr rfl)
            · intro i hi
              unfold blk
              rw [colTo_at hi, if_pos ⟨by omega, by omega⟩]
          · rw [pu_vn e, pu_vn e, pu_un e, pu_un e]
            obtain ⟨a1, a2, a3, a4⟩ := h t ht
            refine ⟨a1, a2, a3, fun i hi => ?_⟩
            unfold blk
            rw [if_neg (fun q => by omega)]
            exact a4 i hi
        · rw [if_neg c2, if_neg c2]; exact ⟨rfl, rfl, h⟩
      · rw [if_neg c1, if_neg c1]; exact ⟨rfl, rfl, h⟩
    · rw [in_no (a := 0) (b := 2) (by decide) (by decide) (by omega), if_pos (show (0 : Int32) = 0 from rfl)]
      by_cases q : w.toInt < 0
      · rw [if_pos q]; exact ⟨rfl, rfl, h⟩
      · rw [if_neg q, if_pos (show 2 < w.toInt by omega)]; exact ⟨rfl, rfl, h⟩
  · rw [e1, e2, if_pos rfl, if_pos rfl]; exact ⟨rfl, rfl, h⟩
theorem holds_eq {s : Nat} (h : SR sv si lane many item) (hs : s < 8) (j b : Int32) (hb : 0 ≤ b.toInt) (hb2 : b.toInt < 2000000000) : sX6_holds j b (sv s) = if 0 ≤ j.toInt ∧ j.toInt + b.toInt ≤ (many s).toInt then 1 else 0 := by
  have hz := h.hsz s hs
  have e := i_sub (x := sv s 3) (y := b) (by omega) (by omega)
  unfold sX6_holds
  simp only [Int32.lt_iff_toInt_lt, i_0, e, (h s hs).2.1]
  rw [if_neg (show ¬ b.toInt < 0 by omega)]
  by_cases c1 : j.toInt < 0
  · rw [if_pos c1, if_neg (fun q => by omega)]
  · rw [if_neg c1]
    by_cases c2 : (sv s 3).toInt - b.toInt < j.toInt
    · rw [if_pos c2, if_neg (fun q => by omega)]
    · rw [if_neg c2, if_pos ⟨by omega, by omega⟩]
theorem set_ok (h : SR sv si lane many item) (k j v st : Int32) : (sX10_set k j v sv si st).1 = (sX11_set k j v st lane many item).1 ∧ (sX10_set k j v sv si st).2.2 = (sX11_set k j v st lane many item).2.2.1 ∧ SR sv (sX10_set k j v sv si st).2.1 lane many (sX11_set k j v st lane many item).2.2.2 := by
  unfold sX10_set sX11_set
  simp only [ltd]
  rcases sheet_cases k with ⟨s, hs, rfl, e1, e2⟩ | ⟨e1, e2⟩
  · rw [e1, e2, if_neg (show ¬ (1 : Int32) = 0 by decide), if_neg (show ¬ (1 : Int32) = 0 by decide), pu_nat (show s < 2147483648 by omega)]
    have hm := h.hmn s hs
    rcases h.ln hs with ⟨l1, l2, -⟩ | ⟨l1, l2, -⟩
    · rw [if_pos l1, if_pos l2, holds_eq h hs j 1 (by decide) (by decide), i_1]
      have e : ((many s) - 1).toInt = (many s).toInt - 1 := by
        have := i_sub (x := many s) (y := 1) (by rw [i_1]; omega) (by rw [i_1]; omega)
        rw [this, i_1]
      rw [in_eq (a := 0) (b := (many s).toInt - 1) (by decide) (by rw [Int32.toInt_toInt64, e])]
      have ec : (0 ≤ j.toInt ∧ j.toInt + 1 ≤ (many s).toInt) = (0 ≤ j.toInt ∧ j.toInt ≤ (many s).toInt - 1) := propext ⟨fun q => ⟨q.1, by omega⟩, fun q => ⟨q.1, by omega⟩⟩
      simp only [ec]
      by_cases c : 0 ≤ j.toInt ∧ j.toInt ≤ (many s).toInt - 1
      · rw [if_pos c, if_neg (show ¬ (1 : Int32) = 0 by decide), if_neg (show ¬ (1 : Int32) = 0 by decide)]
        obtain ⟨i, hi, rfl⟩ := pu_ex (x := j) (b := 59) c.1 (by omega)
        have e3 : (60 * nI s + nI i).toNatClampNeg = 60 * s + i := by rw [show (60 : Int32) = nI 60 from rfl, pu_mul, pu_add, pu_nat (by omega)]
        rw [e3, pu_nat (show i < 2147483648 by omega)]
        have el : (if lane s = 0 then v.toInt8.toInt32 else if lane s = 1 then v.toInt16.toInt32 else v) = sX6_cutToLane v (sv s) := by
          unfold sX6_cutToLane
          obtain ⟨⟨a, b, d⟩ | ⟨a, b⟩, -⟩ := h s hs
          · rw [b]
          · exact absurd l1 (by rw [a]; decide)
        rw [el]
        refine ⟨?_, rfl, ?_⟩
        · dsimp only
          unfold sX10_foundNone
          rw [pu_vs, pu_us, pu_us]
        · dsimp only
          intro t ht
          obtain ⟨a1, a2, a3, a4⟩ := h t ht
          refine ⟨a1, a2, a3, fun m hm9 => ?_⟩
          by_cases q : t = s
          · subst q
            rw [pu_vs]
            by_cases q2 : m = i
            · subst q2; rw [pu_us, pu_us]
            · rw [pu_un q2, pu_un (by omega)]; exact a4 m hm9
          · rw [pu_vn q, pu_un (by omega)]; exact a4 m hm9
      · rw [if_neg c, if_pos (show (0 : Int32) = 0 from rfl), if_pos (show (0 : Int32) = 0 from rfl)]; exact ⟨rfl, rfl, h⟩
    · rw [if_neg l1, if_neg l2]; exact ⟨rfl, rfl, h⟩
  · rw [e1, e2, if_pos rfl, if_pos rfl]; exact ⟨rfl, rfl, h⟩
theorem drop_ok (h : SR sv si lane many item) (k st : Int32) : (sX10_drop k sv st).1 = (sX11_drop k st lane many).1 ∧ (sX10_drop k sv st).2.2 = (sX11_drop k st lane many).2.2.1 ∧ SR (sX10_drop k sv st).2.1 si (sX11_drop k st lane many).2.2.2 many item := by
  unfold sX10_drop sX11_drop
  simp only [ltd]
  rcases sheet_cases k with ⟨s, hs, rfl, e1, e2⟩ | ⟨e1, e2⟩
  · rw [e1, e2, if_neg (show ¬ (1 : Int32) = 0 by decide), if_neg (show ¬ (1 : Int32) = 0 by decide), pu_nat (show s < 2147483648 by omega)]
    rcases h.ln hs with ⟨l1, l2, -⟩ | ⟨l1, l2, -⟩
    · rw [if_pos l1, if_pos l2]
      refine ⟨?_, rfl, ?_⟩
      · dsimp only
        unfold sX10_foundNone
        rw [pu_vs, pu_un (by omega), (h s hs).2.1]
      · dsimp only
        intro t ht
        obtain ⟨a1, a2, a3, a4⟩ := h t ht
        by_cases q : t = s
        · subst q
          rw [pu_vs, pu_us, pu_us, pu_un (by omega)]
          exact ⟨Or.inr ⟨rfl, rfl⟩, a2, a3, a4⟩
        · rw [pu_vn q, pu_un q]; exact ⟨a1, a2, a3, a4⟩
    · rw [if_neg l1, if_neg l2]; exact ⟨rfl, rfl, h⟩
  · rw [e1, e2, if_pos rfl, if_pos rfl]; exact ⟨rfl, rfl, h⟩
end
section
variable {sv si : Nat → Nat → Int32} {lane many item : Nat → Int32}
def cpM (a i b j n : Nat) (item : Nat → Int32) : Nat → Int32 := fun m => if 60 * b + j ≤ m ∧ m < 60 * b + j + n then item (60 * a + i + (m - (60 * b + j))) else item m
theorem mcopy_eq {a i b j n : Nat} (ha : a < 8) (hb : b < 8) (hi : i + n ≤ 60) (hj : j + n ≤ 60) {y : Int32} (hy : y = if nI i < nI j then 0 else 1) : (lX11_copy_143 (nI a) (nI i) (nI b) (nI j) (nI n) y 61 0 item).2 = cpM a i b j n item := by
  have eb : ∀ t : Nat, t ≤ 60 → (60 * nI b + nI j + nI t).toNatClampNeg = 60 * b + j + t := fun t ht => by rw [show (60 : Int32) = nI 60 from rfl, pu_mul, pu_add, pu_add, pu_nat (by omega)]
  have ea : ∀ t : Nat, t ≤ 60 → (60 * nI a + nI i + nI t).toNatClampNeg = 60 * a + i + t := fun t ht => by rw [show (60 : Int32) = nI 60 from rfl, pu_mul, pu_add, pu_add, pu_nat (by omega)]
  by_cases up : i < j
  · -- downward
    rw [if_pos ((pu_lt (by omega) (by omega)).mpr up)] at hy
    subst hy
    have key := loop_run (fun m k (s : Nat → Int32) => lX11_copy_143 (nI a) (nI i) (nI b) (nI j) (nI n) 0 m (nI k) s) (fun k => fun m => if 60 * b + j + (n - k) ≤ m ∧ m < 60 * b + j + n then item (60 * a + i + (m - (60 * b + j))) else item m) n ?_ (61 - n) n (Nat.le_refl _)
    · have key' : lX11_copy_143 (nI a) (nI i) (nI b) (nI j) (nI n) 0 (61 - n + n) (nI 0) (fun m => if 60 * b + j + (n - 0) ≤ m ∧ m < 60 * b + j + n then item (60 * a + i + (m - (60 * b + j))) else item m) = lX11_copy_143 (nI a) (nI i) (nI b) (nI j) (nI n) 0 (61 - n) (nI n) (fun m => if 60 * b + j + (n - n) ≤ m ∧ m < 60 * b + j + n then item (60 * a + i + (m - (60 * b + j))) else item m) := key
      have e0 : (fun m => if 60 * b + j + (n - 0) ≤ m ∧ m < 60 * b + j + n then item (60 * a + i + (m - (60 * b + j))) else item m) = item := by
        funext m; rw [if_neg (fun q => by omega)]
      rw [e0, show 61 - n + n = 61 by omega, show nI 0 = (0 : Int32) from rfl] at key'
      rw [key', show 61 - n = (60 - n) + 1 by omega, lX11_copy_143, if_pos (Int32.le_refl _)]
      show (fun m => if 60 * b + j + (n - n) ≤ m ∧ m < 60 * b + j + n then item (60 * a + i + (m - (60 * b + j))) else item m) = cpM a i b j n item
      rw [show n - n = 0 by omega]
      rfl
    · intro m k hk
      show lX11_copy_143 (nI a) (nI i) (nI b) (nI j) (nI n) 0 (m + 1) (nI k) _ = lX11_copy_143 (nI a) (nI i) (nI b) (nI j) (nI n) 0 m (nI (k + 1)) _
      rw [lX11_copy_143, if_neg (fun q => by have := (pu_le (by omega) (by omega)).mp q; omega)]
      simp only [ltd, if_true]
      have e1 : nI n - 1 - nI k = nI (n - 1 - k) := by
        rw [show (1 : Int32) = nI 1 from rfl, pu_sub (by omega), pu_sub (by omega)]
      rw [e1, eb _ (by omega), ea _ (by omega), pu_succ]
      rw [if_neg (fun q => by
        rcases Nat.lt_trichotomy a b with z | z | z
        · omega
        · subst z; omega
        · omega)]
      congr 1
      funext x
      unfold upd
      by_cases q : x = 60 * b + j + (n - 1 - k)
      · subst q
        rw [if_pos rfl, if_pos ⟨by omega, by omega⟩]
        congr 1
        omega
      · rw [if_neg q]
        have e : (60 * b + j + (n - k) ≤ x ∧ x < 60 * b + j + n) = (60 * b + j + (n - (k + 1)) ≤ x ∧ x < 60 * b + j + n) := propext ⟨fun z => ⟨by omega, z.2⟩, fun z => ⟨by omega, z.2⟩⟩
        simp only [e]
  · rw [if_neg (fun q => up ((pu_lt (by omega) (by omega)).mp q))] at hy
    subst hy
    have key := loop_run (fun m k (s : Nat → Int32) => lX11_copy_143 (nI a) (nI i) (nI b) (nI j) (nI n) 1 m (nI k) s) (fun k => cpM a i b j k item) n ?_ (61 - n) n (Nat.le_refl _)
    · have key' : lX11_copy_143 (nI a) (nI i) (nI b) (nI j) (nI n) 1 (61 - n + n) (nI 0) (cpM a i b j 0 item) = lX11_copy_143 (nI a) (nI i) (nI b) (nI j) (nI n) 1 (61 - n) (nI n) (cpM a i b j n item) := key
      have e0 : cpM a i b j 0 item = item := by funext m; unfold cpM; rw [if_neg (fun q => by omega)]
      rw [e0, show 61 - n + n = 61 by omega, show nI 0 = (0 : Int32) from rfl] at key'
      rw [key', show 61 - n = (60 - n) + 1 by omega, lX11_copy_143, if_pos (Int32.le_refl _)]
    · intro m k hk
      show lX11_copy_143 (nI a) (nI i) (nI b) (nI j) (nI n) 1 (m + 1) (nI k) (cpM a i b j k item) = lX11_copy_143 (nI a) (nI i) (nI b) (nI j) (nI n) 1 m (nI (k + 1)) (cpM a i b j (k + 1) item)
      rw [lX11_copy_143, if_neg (fun q => by have := (pu_le (by omega) (by omega)).mp q; omega)]
      simp only [ltd]
      rw [if_neg (show ¬ (1 : Int32) = 0 by decide), eb _ (by omega), ea _ (by omega), pu_succ]
      congr 1
      funext x
      have er : cpM a i b j k item (60 * a + i + k) = item (60 * a + i + k) := by
        unfold cpM
        rw [if_neg (fun q => by
          rcases Nat.lt_trichotomy a b with z | z | z
          · omega
          · subst z; omega
          · omega)]
      rw [er]
      unfold upd cpM
      by_cases q : x = 60 * b + j + k
      · subst q
        rw [if_pos rfl, if_pos ⟨by omega, by omega⟩]
        congr 1
        omega
      · rw [if_neg q]
        have e : (60 * b + j ≤ x ∧ x < 60 * b + j + k) = (60 * b + j ≤ x ∧ x < 60 * b + j + (k + 1)) := propext ⟨fun z => ⟨z.1, by omega⟩, fun z => ⟨z.1, by omega⟩⟩
        simp only [e]
theorem long_le {i n m : Int32} : (0 < lg_cmp (i.toInt64 + n.toInt64) m.toInt64 ↔ m.toInt < i.toInt + n.toInt) ∧ (lg_cmp (i.toInt64 + n.toInt64) m.toInt64 ≤ 0 ↔ i.toInt + n.toInt ≤ m.toInt) := by
  have e : (i.toInt64 + n.toInt64).toInt = i.toInt + n.toInt := by
    have h1 := i_rng i
    have h2 := i_rng n
    rw [lL_of, lL_of, lL_add, lL_toInt (by omega) (by omega)]
  have e2 : m.toInt64.toInt = m.toInt := Int32.toInt_toInt64 m
  refine ⟨by rw [cmp_gt, e, e2], ?_⟩
  constructor
  · intro h
    rcases Int.lt_or_le m.toInt (i.toInt + n.toInt) with z | z
    · have := cmp_gt.mpr (show m.toInt64.toInt < (i.toInt64 + n.toInt64).toInt by rw [e, e2]; exact z)
      rw [Int32.lt_iff_toInt_lt] at this
      rw [Int32.le_iff_toInt_le] at h
      omega
    · exact z
  · intro h
    rcases Int.lt_or_le 0 (lg_cmp (i.toInt64 + n.toInt64) m.toInt64).toInt with z | z
    · have := cmp_gt.mp (show 0 < lg_cmp (i.toInt64 + n.toInt64) m.toInt64 by rw [Int32.lt_iff_toInt_lt, i_0]; exact z)
      rw [e, e2] at this
      omega
    · rw [Int32.le_iff_toInt_le, i_0]; exact z
theorem copy_ok (h : SR sv si lane many item) (a i b j nn st : Int32) : (sX10_copy a i b j nn sv si st).1 = (sX11_copy a i b j nn st lane many item).1 ∧ (sX10_copy a i b j nn sv si st).2.2 = (sX11_copy a i b j nn st lane many item).2.2.1 ∧ SR sv (sX10_copy a i b j nn sv si st).2.1 lane many (sX11_copy a i b j nn st lane many item).2.2.2 := by
  unfold sX10_copy sX11_copy
  simp only [ltd]
  rcases sheet_cases a with ⟨s, hs, rfl, e1, e2⟩ | ⟨e1, e2⟩
  · rw [e1, e2, if_neg (show ¬ (1 : Int32) = 0 by decide), if_neg (show ¬ (1 : Int32) = 0 by decide)]
    rcases sheet_cases b with ⟨r, hr, rfl, f1, f2⟩ | ⟨f1, f2⟩
    · rw [f1, f2, if_neg (show ¬ (1 : Int32) = 0 by decide), if_neg (show ¬ (1 : Int32) = 0 by decide), pu_nat (show s < 2147483648 by omega), pu_nat (show r < 2147483648 by omega)]
      rcases h.ln hs with ⟨l1, l2, l3⟩ | ⟨l1, l2, l3⟩
      · rw [if_pos l1, if_neg l3]
        rcases h.ln hr with ⟨m1, m2, m3⟩ | ⟨m1, m2, m3⟩
        · rw [if_pos m1, if_pos m2]
          have es : lane s = sv s 2 := by
            obtain ⟨⟨x, y, d⟩ | ⟨x, y⟩, -⟩ := h s hs
            · exact y
            · exact absurd l1 (by rw [x]; decide)
          have er : lane r = sv r 2 := by
            obtain ⟨⟨x, y, d⟩ | ⟨x, y⟩, -⟩ := h r hr
            · exact y
            · exact absurd m1 (by rw [x]; decide)
          rw [es, er]
          by_cases c : sv s 2 = sv r 2
          · rw [if_pos c, if_pos c]
            have hms := h.hmn s hs
            have hmr := h.hmn r hr
            by_cases cn : nn.toInt < 0
            · have e0 : sX6_holds i nn (sv s) = 0 := by
                unfold sX6_holds
                rw [if_pos (by rw [Int32.lt_iff_toInt_lt, i_0]; exact cn)]
              rw [e0, if_pos (show (0 : Int32) = 0 from rfl)]
              by_cases ci : i < 0
              · rw [if_pos ci]; exact ⟨rfl, rfl, h⟩
              · rw [if_neg ci]
                by_cases cj : j < 0
                · rw [if_pos cj]; exact ⟨rfl, rfl, h⟩
                · rw [if_neg cj, if_pos (show nn < 0 by rw [Int32.lt_iff_toInt_lt, i_0]; exact cn)]; exact ⟨rfl, rfl, h⟩
            · by_cases big : nn.toInt < 2000000000
              · rw [holds_eq h hs i nn (by omega) big, holds_eq h hr j nn (by omega) big]
                by_cases ok : (0 ≤ i.toInt ∧ i.toInt + nn.toInt ≤ (many s).toInt) ∧ (0 ≤ j.toInt ∧ j.toInt + nn.toInt ≤ (many r).toInt)
                · obtain ⟨o1, o2⟩ := ok
                  rw [if_pos o1, if_pos o2, if_neg (show ¬ (1 : Int32) = 0 by decide), if_neg (show ¬ (1 : Int32) = 0 by decide)]
                  rw [if_neg (show ¬ i < 0 from fun q => by rw [Int32.lt_iff_toInt_lt, i_0] at q; omega), if_neg (show ¬ j < 0 from fun q => by rw [Int32.lt_iff_toInt_lt, i_0] at q; omega), if_neg (show ¬ nn < 0 from fun q => by rw [Int32.lt_iff_toInt_lt, i_0] at q; omega)]
                  rw [if_neg (fun q => by have := long_le.1.mp q; omega), if_pos (long_le.2.mpr o2.2)]
                  obtain ⟨i', hi', rfl⟩ := pu_ex (x := i) (b := 60) o1.1 (by omega)
                  obtain ⟨j', hj', rfl⟩ := pu_ex (x := j) (b := 60) o2.1 (by omega)
                  obtain ⟨n', hn', rfl⟩ := pu_ex (x := nn) (b := 60) (by omega) (by omega)
                  rw [pu_toInt (by omega), pu_toInt (by omega)] at o1 o2
                  rw [mcopy_eq hs hr (i := i') (j := j') (n := n') (by omega) (by omega) rfl, pu_nat (show i' < 2147483648 by omega), pu_nat (show j' < 2147483648 by omega), pu_nat (show n' < 2147483648 by omega)]
                  refine ⟨rfl, rfl, ?_⟩
                  dsimp only
                  intro t ht
                  obtain ⟨a1, a2, a3, a4⟩ := h t ht
                  refine ⟨a1, a2, a3, fun m hm9 => ?_⟩
                  unfold cpM
                  by_cases q : t = r
                  · subst q
                    rw [pu_vs]
                    unfold va_cpy
                    by_cases z : j' ≤ m ∧ m < j' + n'
                    · rw [if_pos z, if_pos ⟨by omega, by omega⟩]
                      rw [(h s hs).2.2.2 _ (by omega)]
                      congr 1
                      omega
                    · rw [if_neg z, if_neg (fun y => z ⟨by omega, by omega⟩)]
                      exact a4 m hm9
                  · rw [pu_vn q, if_neg (fun y => by
                      rcases Nat.lt_trichotomy t r with z | z | z
                      · omega
                      · exact q z
                      · omega)]
                    exact a4 m hm9
                · have eC : (if (if 0 ≤ i.toInt ∧ i.toInt + nn.toInt ≤ (many s).toInt then (1 : Int32) else 0) = 0 then ((sX10_found 2).1, si, (sX10_found 2).2) else if (if 0 ≤ j.toInt ∧ j.toInt + nn.toInt ≤ (many r).toInt then (1 : Int32) else 0) = 0 then ((sX10_found 2).1, si, (sX10_found 2).2) else ((sX10_foundNone nn).1, va_up si r (va_cpy (si s) (si r) i.toNatClampNeg j.toNatClampNeg nn.toNatClampNeg), (sX10_foundNone nn).2)) = ((sX10_found 2).1, si, (sX10_found 2).2) := by
                    by_cases o1 : 0 ≤ i.toInt ∧ i.toInt + nn.toInt ≤ (many s).toInt
                    · rw [if_pos o1, if_neg (show ¬ (1 : Int32) = 0 by decide), if_neg (fun o2 => ok ⟨o1, o2⟩), if_pos (show (0 : Int32) = 0 from rfl)]
                    · rw [if_neg o1, if_pos (show (0 : Int32) = 0 from rfl)]
                  rw [eC]
                  by_cases ci : i < 0
                  · rw [if_pos ci]; exact ⟨rfl, rfl, h⟩
                  · rw [if_neg ci]
                    by_cases cj : j < 0
                    · rw [if_pos cj]; exact ⟨rfl, rfl, h⟩
                    · rw [if_neg cj]
                      rw [if_neg (show ¬ nn < 0 from fun q => by rw [Int32.lt_iff_toInt_lt, i_0] at q; omega)]
                      rw [Int32.lt_iff_toInt_lt, i_0] at ci cj
                      by_cases d1 : 0 < lg_cmp (i.toInt64 + nn.toInt64) (many s).toInt64
                      · rw [if_pos d1]; exact ⟨rfl, rfl, h⟩
                      · rw [if_neg d1, if_neg (fun d2 => ok ⟨⟨by omega, by
                          rcases Int.lt_or_le (many s).toInt (i.toInt + nn.toInt) with z | z
                          · exact absurd (long_le.1.mpr z) d1
                          · exact z⟩, by omega, long_le.2.mp d2⟩)]
                        exact ⟨rfl, rfl, h⟩
              · -- very many
                have e0 : sX6_holds i nn (sv s) = 0 := by
                  unfold sX6_holds
                  rw [if_neg (show ¬ nn < 0 from fun q => by rw [Int32.lt_iff_toInt_lt, i_0] at q; omega)]
                  by_cases ci : i < 0
                  · rw [if_pos ci]
                  · rw [if_neg ci]
                    have hz := h.hsz s hs
                    have hr9 := i_rng nn
                    have e := i_sub (x := sv s 3) (y := nn) (by omega) (by omega)
                    rw [Int32.lt_iff_toInt_lt, i_0] at ci
                    rw [if_pos (by rw [Int32.lt_iff_toInt_lt, e]; omega)]
                rw [e0, if_pos (show (0 : Int32) = 0 from rfl)]
                by_cases ci : i < 0
                · rw [if_pos ci]; exact ⟨rfl, rfl, h⟩
                · rw [if_neg ci]
                  by_cases cj : j < 0
                  · rw [if_pos cj]; exact ⟨rfl, rfl, h⟩
                  · rw [if_neg cj, if_neg (show ¬ nn < 0 from fun q => by rw [Int32.lt_iff_toInt_lt, i_0] at q; omega)]
                    rw [Int32.lt_iff_toInt_lt, i_0] at ci
                    rw [if_pos (long_le.1.mpr (by omega))]; exact ⟨rfl, rfl, h⟩
          · rw [if_neg c, if_neg c]; exact ⟨rfl, rfl, h⟩
        · rw [if_neg m1, if_neg m2]; exact ⟨rfl, rfl, h⟩
      · rw [if_neg l1, if_pos l3]; exact ⟨rfl, rfl, h⟩
    · rw [f1, f2, if_pos rfl, if_pos rfl]; exact ⟨rfl, rfl, h⟩
  · rw [e1, e2, if_pos rfl, if_pos rfl]; exact ⟨rfl, rfl, h⟩
end
theorem pu_or (a b : Nat) : nI a ||| nI b = nI (a ||| b) := Int32.toBitVec_inj.1 (by
  show BitVec.ofNat 32 a ||| BitVec.ofNat 32 b = BitVec.ofNat 32 (a ||| b)
  exact BitVec.ofNat_or.symm)
theorem pu_and (a b : Nat) : nI a &&& nI b = nI (a &&& b) := Int32.toBitVec_inj.1 (by
  show BitVec.ofNat 32 a &&& BitVec.ofNat 32 b = BitVec.ofNat 32 (a &&& b)
  exact BitVec.ofNat_and.symm)
def bsN (m : Nat → Bool) : Nat → Nat
  | 0 => 0
  | k + 1 => bsN m k ||| (if m k then 2 ^ k else 0)
theorem bsN_test (m : Nat → Bool) : ∀ n i, (bsN m n).testBit i = (decide (i < n) && m i) := by
  intro n
  induction n with
  | zero => intro i; rw [show bsN m 0 = 0 from rfl, Nat.zero_testBit]; simp
  | succ n ih =>
    intro i
    show (bsN m n ||| (if m n then 2 ^ n else 0)).testBit i = _
    rw [Nat.testBit_or, ih]
    by_cases e : i = n
    · subst e
      cases hm : m i
      · simp [hm]
      · simp [hm]
    · have : (if m n then 2 ^ n else 0).testBit i = false := by
        split
        · rw [Nat.testBit_two_pow]; simp; omega
        · exact Nat.zero_testBit i
      rw [this, Bool.or_false]
      have : decide (i < n) = decide (i < n + 1) := by
        by_cases z : i < n
        · rw [decide_eq_true z, decide_eq_true (by omega)]
        · rw [decide_eq_false z, decide_eq_false (by omega)]
      rw [this]
theorem one_shl : ∀ w : Fin 13, (1 : Int32) <<< (nI w.val &&& 31) = nI (2 ^ w.val) := by decide +kernel
def gBit (w : Nat) (a b d : Int32) : Int32 := sX5_guessOfBit (nI w) a b d
theorem z99 : bd (0 : Int32) 99 := ⟨0, by omega, rfl⟩
theorem gBit_eq {w : Nat} (hw : w < 13) (a b d : Int32) : sX11_guessBy (if nI w = 0 then 1 else (if 3 ≤ nI w then (if 12 ≤ nI w then 4 else 3) else 2)) (if 3 ≤ nI w then nI w - 2 else nI w + 1) a b d = gBit w a b d := by
  have e1 : ∀ k, sX9_guessBy 1 k a b d 0 = sX11_guessBy 1 k a b d := fun k => (guess_eq (Or.inl rfl) z99).trans (if_neg (by decide))
  have e2 : ∀ k, sX9_guessBy 2 k a b d 0 = sX11_guessBy 2 k a b d := fun k => (guess_eq (Or.inr (Or.inl rfl)) z99).trans (if_neg (by decide))
  have e3 : ∀ k, sX9_guessBy 3 k a b d 0 = sX11_guessBy 3 k a b d := fun k => (guess_eq (Or.inr (Or.inr (Or.inl rfl))) z99).trans (if_neg (by decide))
  have e4 : ∀ k, sX9_guessBy 4 k a b d 0 = sX11_guessBy 4 k a b d := fun k => (guess_eq (Or.inr (Or.inr (Or.inr (Or.inl rfl)))) z99).trans (if_neg (by decide))
  unfold gBit sX5_guessOfBit
  simp only [ltd]
  rcases (show w = 0 ∨ w = 1 ∨ w = 2 ∨ w = 12 ∨ (3 ≤ w ∧ w ≤ 11) by omega) with rfl | rfl | rfl | rfl | ⟨h1, h2⟩
  · rw [if_pos (show nI 0 = 0 from rfl), if_neg (show ¬ nI 0 = 1 by decide), if_neg (show ¬ nI 0 = 2 by decide), if_pos (show nI 0 < 3 by decide), if_neg (show ¬ nI 0 = 12 by decide), e1]
    rfl
  · rw [if_neg (show ¬ nI 1 = 0 by decide), if_neg (show ¬ 3 ≤ nI 1 by decide), if_neg (show ¬ 3 ≤ nI 1 by decide), if_pos (show nI 1 = 1 from rfl), e2]
    rfl
  · rw [if_neg (show ¬ nI 2 = 0 by decide), if_neg (show ¬ 3 ≤ nI 2 by decide), if_neg (show ¬ 3 ≤ nI 2 by decide), if_neg (show ¬ nI 2 = 1 by decide), if_pos (show nI 2 = 2 from rfl), e2]
    rfl
  · rw [if_neg (show ¬ nI 12 = 0 by decide), if_pos (show 3 ≤ nI 12 by decide), if_pos (show 3 ≤ nI 12 by decide), if_pos (show 12 ≤ nI 12 by decide), if_neg (show ¬ nI 12 = 1 by decide), if_neg (show ¬ nI 12 = 2 by decide), if_neg (show ¬ nI 12 < 3 by decide), if_pos (show 11 < nI 12 by decide), if_pos (show nI 12 = 12 from rfl), e4]
    rfl
  · have q0 : ¬ nI w = 0 := fun q => by have := (pu_inj (b := 0) (by omega) (by omega)).mp q; omega
    have q1 : ¬ nI w = 1 := fun q => by have := (pu_inj (b := 1) (by omega) (by omega)).mp q; omega
    have q2 : ¬ nI w = 2 := fun q => by have := (pu_inj (b := 2) (by omega) (by omega)).mp q; omega
    have q3 : (3 : Int32) ≤ nI w := (pu_le (a := 3) (by omega) (by omega)).mpr h1
    have q4 : ¬ (12 : Int32) ≤ nI w := fun q => by have := (pu_le (a := 12) (by omega) (by omega)).mp q; omega
    have q5 : ¬ nI w < (3 : Int32) := fun q => by have := (pu_lt (b := 3) (by omega) (by omega)).mp q; omega
    have q6 : ¬ (11 : Int32) < nI w := fun q => by have := (pu_lt (a := 11) (by omega) (by omega)).mp q; omega
    rw [if_neg q0, if_pos q3, if_pos q3, if_neg q4, if_neg q1, if_neg q2, if_neg q5, if_neg q6, e3]
    have ek : nI w - 3 + 1 = nI w - 2 := by
      rw [show (3 : Int32) = nI 3 from rfl, show (2 : Int32) = nI 2 from rfl, pu_sub h1, pu_succ, pu_sub (by omega)]
      congr 1; omega
    rw [ek]
def mRow (a : Nat → Int32) (p w : Nat) : Bool := decide (gBit w (a p) (a (p + 1)) (a (p + 2)) = a (p + 3))
theorem waysOfRow_eq {p : Nat} (hp : p ≤ 56) (a : Nat → Int32) : sX5_waysOfRow (nI p) a = nI (bsN (mRow a p) 13) := by
  have key := loop_run (fun n i (s : Int32) => lX5_waysOfRow_18 (nI p) a n (nI i) s) (fun i => nI (bsN (mRow a p) i)) 13 ?_ 1 13 (Nat.le_refl _)
  · have key' : lX5_waysOfRow_18 (nI p) a 14 (nI 0) (nI 0) = lX5_waysOfRow_18 (nI p) a 1 (nI 13) (nI (bsN (mRow a p) 13)) := key
    rw [show nI 0 = (0 : Int32) from rfl] at key'
    unfold sX5_waysOfRow
    rw [if_neg (show ¬ nI p < (0 : Int32) from fun q => by have := (pu_lt (b := 0) (by omega) (by omega)).mp q; omega), if_pos (show nI p ≤ (60 : Int32) - 4 from (pu_le (b := 56) (by omega) (by omega)).mpr hp), ltd, key', lX5_waysOfRow_18, if_pos (show (13 : Int32) ≤ nI 13 from Int32.le_refl _)]
  · intro n i hi
    show lX5_waysOfRow_18 (nI p) a (n + 1) (nI i) (nI (bsN (mRow a p) i)) = lX5_waysOfRow_18 (nI p) a n (nI (i + 1)) (nI (bsN (mRow a p) i ||| (if mRow a p i then 2 ^ i else 0)))
    have e1 : (nI p + 1).toNatClampNeg = p + 1 := by rw [pu_succ, pu_nat (by omega)]
    have e2 : (nI p + 2).toNatClampNeg = p + 2 := by rw [show (2 : Int32) = nI 2 from rfl, pu_add, pu_nat (by omega)]
    have e3 : (nI p + 3).toNatClampNeg = p + 3 := by rw [show (3 : Int32) = nI 3 from rfl, pu_add, pu_nat (by omega)]
    rw [lX5_waysOfRow_18, if_neg (show ¬ (13 : Int32) ≤ nI i from fun q => by have := (pu_le (a := 13) (by omega) (by omega)).mp q; omega), e1, e2, e3, pu_nat (show p < 2147483648 by omega), pu_succ]
    simp only [ltd]
    rw [one_shl ⟨i, hi⟩]
    dsimp only
    have em : mRow a p i = decide (sX5_guessOfBit (nI i) (a p) (a (p + 1)) (a (p + 2)) = a (p + 3)) := rfl
    by_cases c : sX5_guessOfBit (nI i) (a p) (a (p + 1)) (a (p + 2)) = a (p + 3)
    · rw [if_pos c, em, decide_eq_true c, if_pos rfl, pu_or]
    · rw [if_neg c, em, decide_eq_false c, if_neg (by decide), Nat.or_zero]
def mAll (a : Nat → Int32) (p : Nat) : Nat → Nat → Bool
  | 0, _ => true
  | r + 1, w => mAll a p r w && mRow a (p + 4 * r) w
theorem waysShown_eq {p n : Nat} (hp : p + 4 * n ≤ 60) (a : Nat → Int32) : sX5_waysShown (nI p) (nI n) a = nI (bsN (mAll a p n) 13) := by
  have hb : ∀ r, r ≤ n → (bsN (mAll a p r) 13 = if r = 0 then 8191 else bsN (mAll a p r) 13) := by
    intro r _
    by_cases z : r = 0
    · subst z; rw [if_pos rfl]
      apply Nat.eq_of_testBit_eq
      intro i
      rw [bsN_test, show (8191 : Nat) = 2 ^ 13 - 1 from rfl, Nat.testBit_two_pow_sub_one]
      simp [mAll]
    · rw [if_neg z]
  have key := loop_run (fun m i (s : Int32) => lX5_waysShown_7 (nI p) (nI n) a m (nI i) s) (fun i => nI (bsN (mAll a p i) 13)) n ?_ (16 - n) n (Nat.le_refl _)
  · have e0 := hb 0 (by omega)
    rw [if_pos rfl] at e0
    have key' : lX5_waysShown_7 (nI p) (nI n) a (16 - n + n) (nI 0) (nI (bsN (mAll a p 0) 13)) = lX5_waysShown_7 (nI p) (nI n) a (16 - n) (nI n) (nI (bsN (mAll a p n) 13)) := key
    rw [e0, show 16 - n + n = 16 by omega, show nI 0 = (0 : Int32) from rfl, show nI 8191 = (8191 : Int32) from rfl] at key'
    unfold sX5_waysShown
    rw [ltd, key', show 16 - n = (15 - n) + 1 by omega, lX5_waysShown_7, if_pos (Int32.le_refl _)]
  · intro m i hi
    show lX5_waysShown_7 (nI p) (nI n) a (m + 1) (nI i) (nI (bsN (mAll a p i) 13)) = lX5_waysShown_7 (nI p) (nI n) a m (nI (i + 1)) (nI (bsN (mAll a p (i + 1)) 13))
    have e1 : nI p + nI i * 4 = nI (p + 4 * i) := by rw [show (4 : Int32) = nI 4 from rfl, pu_mul, pu_add]; congr 1; omega
    rw [lX5_waysShown_7, if_neg (fun q => by have := (pu_le (by omega) (by omega)).mp q; omega), e1, waysOfRow_eq (by omega), ltd, ltd, ltd, pu_and, pu_succ]
    congr 2
    apply Nat.eq_of_testBit_eq
    intro w
    rw [Nat.testBit_and, bsN_test, bsN_test, bsN_test]
    show _ = (decide (w < 13) && (mAll a p i w && mRow a (p + 4 * i) w))
    cases decide (w < 13) <;> simp
section
variable {sv si : Nat → Nat → Int32} {lane many item : Nat → Int32}
theorem mrows_eq {s p n w : Nat} (hs : s < 8) (hp : p + 4 * n ≤ 60) (hw : w < 13) (hi : ∀ i, i < 60 → si s i = item (60 * s + i)) : (lX11_shown_196 (nI n) item (nI (60 * s + p)) (if nI w = 0 then 1 else (if 3 ≤ nI w then (if 12 ≤ nI w then 4 else 3) else 2)) (if 3 ≤ nI w then nI w - 2 else nI w + 1) 17 (nI (60 * s + p)) 1).2 = if mAll (si s) p n w then 1 else 0 := by
  have key := loop_run (fun m i (x : Int32) => lX11_shown_196 (nI n) item (nI (60 * s + p)) (if nI w = 0 then 1 else (if 3 ≤ nI w then (if 12 ≤ nI w then 4 else 3) else 2)) (if 3 ≤ nI w then nI w - 2 else nI w + 1) m (nI (60 * s + p + 4 * i)) x) (fun i => if mAll (si s) p i w then 1 else 0) n ?_ (17 - n) n (Nat.le_refl _)
  · have key' : lX11_shown_196 (nI n) item (nI (60 * s + p)) (if nI w = 0 then 1 else (if 3 ≤ nI w then (if 12 ≤ nI w then 4 else 3) else 2)) (if 3 ≤ nI w then nI w - 2 else nI w + 1) (17 - n + n) (nI (60 * s + p + 4 * 0)) 1 = lX11_shown_196 (nI n) item (nI (60 * s + p)) (if nI w = 0 then 1 else (if 3 ≤ nI w then (if 12 ≤ nI w then 4 else 3) else 2)) (if 3 ≤ nI w then nI w - 2 else nI w + 1) (17 - n) (nI (60 * s + p + 4 * n)) (if mAll (si s) p n w then 1 else 0) := key
    rw [show 17 - n + n = 17 by omega, show 60 * s + p + 4 * 0 = 60 * s + p by omega] at key'
    have en : nI (60 * s + p) + 4 * nI n = nI (60 * s + p + 4 * n) := by rw [show (4 : Int32) = nI 4 from rfl, pu_mul, pu_add]
    rw [key', show 17 - n = (16 - n) + 1 by omega, lX11_shown_196, if_pos (by rw [en]; exact Int32.le_refl _)]
  · intro m i hi9
    show lX11_shown_196 (nI n) item (nI (60 * s + p)) _ _ (m + 1) (nI (60 * s + p + 4 * i)) (if mAll (si s) p i w then 1 else 0) = lX11_shown_196 (nI n) item (nI (60 * s + p)) _ _ m (nI (60 * s + p + 4 * (i + 1))) (if (mAll (si s) p i w && mRow (si s) (p + 4 * i) w) then 1 else 0)
    have en : nI (60 * s + p) + 4 * nI n = nI (60 * s + p + 4 * n) := by rw [show (4 : Int32) = nI 4 from rfl, pu_mul, pu_add]
    have ep : ∀ t : Nat, t ≤ 4 → nI (60 * s + p + 4 * i) + nI t = nI (60 * s + p + 4 * i + t) := fun t _ => pu_add _ _
    have ei : ∀ t : Nat, t ≤ 3 → (nI (60 * s + p + 4 * i + t)).toNatClampNeg = 60 * s + p + 4 * i + t := fun t _ => pu_nat (by omega)
    rw [lX11_shown_196, en, if_neg (fun q => by have := (pu_le (by omega) (by omega)).mp q; omega)]
    simp only [ltd]
    rw [show nI (60 * s + p + 4 * i) + 1 = nI (60 * s + p + 4 * i + 1) from ep 1 (by omega), show nI (60 * s + p + 4 * i) + 2 = nI (60 * s + p + 4 * i + 2) from ep 2 (by omega), show nI (60 * s + p + 4 * i) + 3 = nI (60 * s + p + 4 * i + 3) from ep 3 (by omega), show nI (60 * s + p + 4 * i) + 4 = nI (60 * s + p + 4 * i + 4) from ep 4 (by omega), ei 1 (by omega), ei 2 (by omega), ei 3 (by omega), pu_nat (show 60 * s + p + 4 * i < 2147483648 by omega), gBit_eq hw]
    have x0 := hi (p + 4 * i) (by omega)
    have x1 := hi (p + 4 * i + 1) (by omega)
    have x2 := hi (p + 4 * i + 2) (by omega)
    have x3 := hi (p + 4 * i + 3) (by omega)
    rw [show 60 * s + (p + 4 * i) = 60 * s + p + 4 * i by omega] at x0
    rw [show 60 * s + (p + 4 * i + 1) = 60 * s + p + 4 * i + 1 by omega] at x1
    rw [show 60 * s + (p + 4 * i + 2) = 60 * s + p + 4 * i + 2 by omega] at x2
    rw [show 60 * s + (p + 4 * i + 3) = 60 * s + p + 4 * i + 3 by omega] at x3
    rw [← x0, ← x1, ← x2, ← x3, show 60 * s + p + 4 * i + 4 = 60 * s + p + 4 * (i + 1) by omega]
    congr 1
    have em : mRow (si s) (p + 4 * i) w = decide (gBit w (si s (p + 4 * i)) (si s (p + 4 * i + 1)) (si s (p + 4 * i + 2)) = si s (p + 4 * i + 3)) := rfl
    rw [em]
    cases mAll (si s) p i w
    · rfl
    · by_cases c : gBit w (si s (p + 4 * i)) (si s (p + 4 * i + 1)) (si s (p + 4 * i + 2)) = si s (p + 4 * i + 3)
      · rw [if_pos c, decide_eq_true c]; rfl
      · rw [if_neg c, decide_eq_false c]; rfl
theorem mways_eq {s p n : Nat} (hs : s < 8) (hp : p + 4 * n ≤ 60) (hi : ∀ i, i < 60 → si s i = item (60 * s + i)) : (lX11_shown_130 (nI n) item (nI (60 * s + p)) 14 0 0).2 = nI (bsN (mAll (si s) p n) 13) := by
  have key := loop_run (fun m i (x : Int32) => lX11_shown_130 (nI n) item (nI (60 * s + p)) m (nI i) x) (fun i => nI (bsN (mAll (si s) p n) i)) 13 ?_ 1 13 (Nat.le_refl _)
  · have key' : lX11_shown_130 (nI n) item (nI (60 * s + p)) 14 (nI 0) (nI 0) = lX11_shown_130 (nI n) item (nI (60 * s + p)) 1 (nI 13) (nI (bsN (mAll (si s) p n) 13)) := key
    rw [show nI 0 = (0 : Int32) from rfl] at key'
    rw [key', lX11_shown_130, if_pos (show (13 : Int32) ≤ nI 13 from Int32.le_refl _)]
  · intro m w hw
    show lX11_shown_130 (nI n) item (nI (60 * s + p)) (m + 1) (nI w) (nI (bsN (mAll (si s) p n) w)) = lX11_shown_130 (nI n) item (nI (60 * s + p)) m (nI (w + 1)) (nI (bsN (mAll (si s) p n) w ||| (if mAll (si s) p n w then 2 ^ w else 0)))
    rw [lX11_shown_130, if_neg (show ¬ (13 : Int32) ≤ nI w from fun q => by have := (pu_le (a := 13) (by omega) (by omega)).mp q; omega)]
    simp only [ltd]
    rw [mrows_eq hs hp hw hi, one_shl ⟨w, hw⟩, pu_succ]
    dsimp only
    have e : ∀ (X : Nat) (b : Bool), (nI X ||| (if (if b = true then (1 : Int32) else 0) = 0 then 0 else nI (2 ^ w))) = nI (X ||| (if b = true then 2 ^ w else 0)) := by
      intro X b
      cases b
      · show nI X ||| 0 = nI (X ||| 0)
        rw [Int32.or_zero, Nat.or_zero]
      · exact pu_or _ _
    rw [e]
theorem prices_eq {s p n : Nat} (hs : s < 8) (hp : p + 4 * n ≤ 60) (hi : ∀ i, i < 60 → si s i = item (60 * s + i)) (st : Int32) : ∀ (m i n1 n2 : Nat), i + m = 4 * n → m < n1 → m < n2 →
    (lX5_arePrices_6 (nI p) (nI n) (si s) n1 (nI (p + i)) = 0 ∧ lX11_shown_81 (nI n) st item (nI (60 * s + p)) n2 (nI i) = (-1000001, 0, st)) ∨ (lX5_arePrices_6 (nI p) (nI n) (si s) n1 (nI (p + i)) = 1 ∧ lX11_shown_81 (nI n) st item (nI (60 * s + p)) n2 (nI i) = (nI (bsN (mAll (si s) p n) 13), 0, 0)) := by
  have en : nI p + nI n * 4 = nI (p + 4 * n) := by rw [show (4 : Int32) = nI 4 from rfl, pu_mul, pu_add]; congr 1; omega
  have em : 4 * nI n = nI (4 * n) := by rw [show (4 : Int32) = nI 4 from rfl, pu_mul]
  intro m
  induction m with
  | zero =>
    intro i n1 n2 h1 h2 h3
    obtain ⟨n1, rfl⟩ : ∃ n', n1 = n' + 1 := ⟨n1 - 1, by omega⟩
    obtain ⟨n2, rfl⟩ : ∃ n', n2 = n' + 1 := ⟨n2 - 1, by omega⟩
    right
    have e : i = 4 * n := by omega
    subst e
    refine ⟨?_, ?_⟩
    · rw [lX5_arePrices_6, en, if_pos (Int32.le_refl _)]
    · rw [lX11_shown_81, em, if_pos (Int32.le_refl _), ltd, mways_eq hs hp hi]
  | succ m ih =>
    intro i n1 n2 h1 h2 h3
    obtain ⟨n1, rfl⟩ : ∃ n', n1 = n' + 1 := ⟨n1 - 1, by omega⟩
    obtain ⟨n2, rfl⟩ : ∃ n', n2 = n' + 1 := ⟨n2 - 1, by omega⟩
    have x0 := hi (p + i) (by omega)
    have ei : (nI (60 * s + p) + nI i).toNatClampNeg = 60 * s + (p + i) := by rw [pu_add, pu_nat (by omega)]; omega
    have h99 : (99 : Int32).toInt = 99 := by decide
    rw [lX5_arePrices_6, en, if_neg (fun q => by have := (pu_le (by omega) (by omega)).mp q; omega), if_neg (show ¬ (60 : Int32) ≤ nI (p + i) from fun q => by have := (pu_le (a := 60) (by omega) (by omega)).mp q; omega), pu_nat (show p + i < 2147483648 by omega), ltd, pu_succ]
    rw [lX11_shown_81, em, if_neg (show ¬ nI (4 * n) ≤ nI i from fun q => by have := (pu_le (by omega) (by omega)).mp q; omega), ei, ← x0]
    simp only [ltd, Int32.lt_iff_toInt_lt, Int32.le_iff_toInt_le, i_0, h99]
    by_cases c : 0 ≤ (si s (p + i)).toInt ∧ (si s (p + i)).toInt ≤ 99
    · rw [in_yes (a := 0) (b := 99) (by decide) (by decide) c.1 c.2, if_neg (show ¬ (1 : Int32) = 0 by decide), if_neg (show ¬ (si s (p + i)).toInt < 0 by omega), if_pos c.2, pu_succ, show p + i + 1 = p + (i + 1) by omega]
      exact ih (i + 1) n1 n2 (by omega) (by omega) (by omega)
    · rw [in_no (a := 0) (b := 99) (by decide) (by decide) (by omega), if_pos (show (0 : Int32) = 0 from rfl)]
      left
      refine ⟨?_, rfl⟩
      by_cases q : (si s (p + i)).toInt < 0
      · rw [if_pos q]
      · rw [if_neg q, if_neg (by omega)]
theorem shown_ok (h : SR sv si lane many item) (k j nn st : Int32) : (sX10_shown k j nn sv si st).1 = (sX11_shown k j nn st lane many item).1 ∧ (sX10_shown k j nn sv si st).2 = (sX11_shown k j nn st lane many item).2.2 := by
  have h15 : (15 : Int32).toInt = 15 := by decide
  unfold sX10_shown sX11_shown
  simp only [ltd]
  rcases sheet_cases k with ⟨s, hs, rfl, e1, e2⟩ | ⟨e1, e2⟩
  · rw [e1, e2, if_neg (show ¬ (1 : Int32) = 0 by decide), if_neg (show ¬ (1 : Int32) = 0 by decide), pu_nat (show s < 2147483648 by omega)]
    by_cases hn : 1 ≤ nn.toInt ∧ nn.toInt ≤ 15
    · rw [in_yes (a := 1) (b := 15) (by decide) (by decide) hn.1 hn.2, if_neg (show ¬ (1 : Int32) = 0 by decide), if_neg (show ¬ nn < 1 from fun q => by rw [Int32.lt_iff_toInt_lt, i_1] at q; omega), if_pos (show nn ≤ 15 by rw [Int32.le_iff_toInt_le, h15]; omega)]
      obtain ⟨n, hn', rfl⟩ := pu_ex (x := nn) (b := 15) (by omega) (by omega)
      have hm := h.hmn s hs
      have e4 : nI n * 4 = nI (4 * n) := by rw [show (4 : Int32) = nI 4 from rfl, pu_mul, Nat.mul_comm]
      have e4' : 4 * nI n = nI (4 * n) := by rw [show (4 : Int32) = nI 4 from rfl, pu_mul]
      rcases h.ln hs with ⟨l1, l2, -⟩ | ⟨l1, l2, -⟩
      · rw [if_pos l1, if_pos l2, e4, e4', holds_eq h hs j (nI (4 * n)) (by rw [pu_toInt (by omega)]; omega) (by rw [pu_toInt (by omega)]; omega)]
        by_cases c1 : j.toInt < 0
        · rw [if_neg (show ¬ (0 ≤ j.toInt ∧ j.toInt + (nI (4 * n)).toInt ≤ (many s).toInt) from fun q => by omega), if_pos (show (0 : Int32) = 0 from rfl), if_pos (show j < 0 by rw [Int32.lt_iff_toInt_lt, i_0]; exact c1)]; exact ⟨rfl, rfl⟩
        · rw [if_neg (show ¬ j < 0 from fun q => by rw [Int32.lt_iff_toInt_lt, i_0] at q; exact c1 q)]
          by_cases c2 : j.toInt + (nI (4 * n)).toInt ≤ (many s).toInt
          · rw [if_pos (show (0 ≤ j.toInt ∧ j.toInt + (nI (4 * n)).toInt ≤ (many s).toInt) from ⟨by omega, c2⟩), if_neg (show ¬ (1 : Int32) = 0 by decide), if_pos (long_le.2.mpr c2)]
            rw [pu_toInt (by omega)] at c2
            obtain ⟨p, hp, rfl⟩ := pu_ex (x := j) (b := 60) (by omega) (by omega)
            rw [pu_toInt (by omega)] at c2
            have e60 : 60 * nI s + nI p = nI (60 * s + p) := by rw [show (60 : Int32) = nI 60 from rfl, pu_mul, pu_add]
            rw [e60]
            have hpn : p + 4 * n ≤ 60 := by omega
            unfold sX5_arePrices
            rw [ltd]
            have ex : (if (0 : Int32) < nI p then nI p else 0) = nI (p + 0) := by
              by_cases z : p = 0
              · subst z; rfl
              · rw [if_pos (show (0 : Int32) < nI p from (pu_lt (a := 0) (by omega) (by omega)).mpr (by omega))]; rfl
            rw [ex]
            rcases prices_eq hs hpn (h s hs).2.2.2 st (4 * n) 0 61 61 (by omega) (by omega) (by omega) with ⟨y1, y2⟩ | ⟨y1, y2⟩
            · rw [show nI 0 = (0 : Int32) from rfl] at y2
              rw [y1, y2, if_pos rfl]; exact ⟨rfl, rfl⟩
            · rw [show nI 0 = (0 : Int32) from rfl] at y2
              rw [y1, y2, if_neg (show ¬ (1 : Int32) = 0 by decide), waysShown_eq hpn]; exact ⟨rfl, rfl⟩
          · rw [if_neg (show ¬ (0 ≤ j.toInt ∧ j.toInt + (nI (4 * n)).toInt ≤ (many s).toInt) from fun q => c2 q.2), if_pos (show (0 : Int32) = 0 from rfl), if_neg (show ¬ lg_cmp (j.toInt64 + (nI (4 * n)).toInt64) (many s).toInt64 ≤ 0 from fun q => c2 (long_le.2.mp q))]; exact ⟨rfl, rfl⟩
      · rw [if_neg l1, if_neg l2]; exact ⟨rfl, rfl⟩
    · rw [in_no (a := 1) (b := 15) (by decide) (by decide) (by omega), if_pos (show (0 : Int32) = 0 from rfl)]
      by_cases q : nn < 1
      · rw [if_pos q]; exact ⟨rfl, rfl⟩
      · rw [if_neg q, if_neg (fun z => hn (by rw [Int32.lt_iff_toInt_lt, i_1] at q; rw [Int32.le_iff_toInt_le, h15] at z; omega))]; exact ⟨rfl, rfl⟩
  · rw [e1, e2, if_pos rfl, if_pos rfl]; exact ⟨rfl, rfl⟩
end
theorem byte_eq (z : Int64) : (vp_nar .byte (z.toInt32.toInt8.toInt32)) &&& 255 = (z &&& 255).toInt32 := by
  have e : vp_nar .byte (z.toInt32.toInt8.toInt32) = z.toInt32.toInt8.toInt32.toInt8.toInt32 := rfl
  rw [e]
  apply Int32.toBitVec_inj.1
  simp only [Int32.toBitVec_and, Int64.toBitVec_toInt32, Int64.toBitVec_and, Int8.toBitVec_toInt32, Int32.toBitVec_toInt8]
  apply BitVec.eq_of_getLsbD_eq
  intro i hi
  have h255 : (255 : Int32).toBitVec = 255#32 := by decide
  have h255' : (255 : Int64).toBitVec = 255#64 := by decide
  rw [h255, h255']
  simp only [BitVec.getLsbD_and, BitVec.getLsbD_signExtend, BitVec.getLsbD_ofNat]
  by_cases h8 : i < 8
  · simp [h8, hi, show i < 64 by omega]
  · have hz : Nat.testBit 255 i = false := by
      have : (255 : Nat) = 2 ^ 8 - 1 := rfl
      rw [this, Nat.testBit_two_pow_sub_one]
      exact decide_eq_false h8
    simp [hz]
    intro _ h64
    omega
theorem and255 (x : Int32) : bd (x &&& 255) 255 := by
  refine ⟨(x.toBitVec &&& 255#32).toNat, ?_, ?_⟩
  · rw [BitVec.toNat_and]
    exact Nat.and_le_right
  · apply Int32.toBitVec_inj.1
    show x.toBitVec &&& (255 : Int32).toBitVec = BitVec.ofNat 32 _
    have h255 : (255 : Int32).toBitVec = 255#32 := by decide
    rw [h255, BitVec.ofNat_toNat]
    simp
def TR (pl tp : Int32) (pb rt : Nat → Int32) : Prop := pl = tp ∧ bd tp 400 ∧ ∀ i : Nat, (i : Int) < tp.toInt → pb i &&& 255 = rt i
theorem feed_loop {v : Int64} : ∀ (m l n1 n2 : Nat) (pb rt : Nat → Int32), l + m ≤ 400 → m < n1 → m < n2 → (∀ i, i < l → pb i &&& 255 = rt i) →
    ∃ (x1 x2 : Int32) (pb' rt' : Nat → Int32), lX7_append_5 v n1 (nI m - 1) (nI l) pb = (x1, nI (l + m), pb') ∧ lX11_feed_40 v n2 (nI m - 1) (nI l) rt = (x2, nI (l + m), rt') ∧ ∀ i, i < l + m → pb' i &&& 255 = rt' i := by
  intro m
  induction m with
  | zero =>
    intro l n1 n2 pb rt h1 h2 h3 h
    obtain ⟨n1, rfl⟩ : ∃ n', n1 = n' + 1 := ⟨n1 - 1, by omega⟩
    obtain ⟨n2, rfl⟩ : ∃ n', n2 = n' + 1 := ⟨n2 - 1, by omega⟩
    refine ⟨nI 0 - 1, nI 0 - 1, pb, rt, ?_, ?_, h⟩
    · rw [lX7_append_5, if_pos (show nI 0 - 1 < (0 : Int32) by decide)]; rfl
    · rw [lX11_feed_40, if_pos (show nI 0 - 1 < (0 : Int32) by decide)]; rfl
  | succ m ih =>
    intro l n1 n2 pb rt h1 h2 h3 h
    obtain ⟨n1, rfl⟩ : ∃ n', n1 = n' + 1 := ⟨n1 - 1, by omega⟩
    obtain ⟨n2, rfl⟩ : ∃ n', n2 = n' + 1 := ⟨n2 - 1, by omega⟩
    have e1 : nI (m + 1) - 1 = nI m := by rw [show (1 : Int32) = nI 1 from rfl, pu_sub (by omega)]; rfl
    have e2 : nI m + -1 = nI m - 1 := (Int32.sub_eq_add_neg _ _).symm
    have g1 : ¬ nI m < (0 : Int32) := fun q => by have := (pu_lt (b := 0) (by omega) (by omega)).mp q; omega
    have g2 : ¬ (400 : Int32) ≤ nI l := fun q => by have := (pu_le (a := 400) (by omega) (by omega)).mp q; omega
    rw [e1, lX7_append_5, if_neg g1, if_neg g2, lX11_feed_40, if_neg g1]
    simp only [ltd]
    rw [pu_nat (show l < 2147483648 by omega), e2, pu_succ]
    obtain ⟨x1, x2, pb', rt', a1, a2, a3⟩ := ih (l + 1) n1 n2 (upd pb l (vp_nar .byte ((v >>> ((8 * nI m).toInt64 &&& 63)).toInt32.toInt8.toInt32))) (upd rt l (((v >>> ((8 * nI m).toInt64 &&& 63)) &&& 255).toInt32)) (by omega) (by omega) (by omega) (by
      intro i hi
      by_cases q : i = l
      · subst q; rw [pu_us, pu_us]; exact byte_eq _
      · rw [pu_un q, pu_un q]; exact h i (by omega))
    exact ⟨x1, x2, pb', rt', by rw [show l + (m + 1) = l + 1 + m by omega]; exact a1, by rw [show l + (m + 1) = l + 1 + m by omega]; exact a2, fun i hi => a3 i (by omega)⟩
theorem feed_ok {pl tp : Int32} {pb rt : Nat → Int32} (h : TR pl tp pb rt) (v : Int64) (nn : Int32) : (sX10_feed v nn pl pb).1 = (sX11_feed v nn tp rt).1 ∧ TR (sX10_feed v nn pl pb).2.1 (sX11_feed v nn tp rt).2.2.1 (sX10_feed v nn pl pb).2.2 (sX11_feed v nn tp rt).2.2.2 := by
  obtain ⟨rfl, ⟨l, hl, rfl⟩, h3⟩ := h
  have h8 : (8 : Int32).toInt = 8 := by decide
  unfold sX10_feed sX11_feed
  simp only [ltd]
  have hh : TR (nI l) (nI l) pb rt := ⟨rfl, ⟨l, hl, rfl⟩, h3⟩
  by_cases hn : 1 ≤ nn.toInt ∧ nn.toInt ≤ 8
  · rw [in_yes (a := 1) (b := 8) (by decide) (by decide) hn.1 hn.2, if_neg (show ¬ (1 : Int32) = 0 by decide), if_neg (show ¬ nn < 1 from fun q => by rw [Int32.lt_iff_toInt_lt, i_1] at q; omega), if_pos (show nn ≤ 8 by rw [Int32.le_iff_toInt_le, h8]; omega)]
    obtain ⟨n, hn', rfl⟩ := pu_ex (x := nn) (b := 8) (by omega) (by omega)
    unfold sX7_hasRoomFor
    have e4 : (400 : Int32) - nI l = nI (400 - l) := by rw [show (400 : Int32) = nI 400 from rfl, pu_sub hl]
    rw [e4, pu_add]
    by_cases c : l + n ≤ 400
    · rw [if_pos (show nI (l + n) ≤ (400 : Int32) from (pu_le (b := 400) (by omega) (by omega)).mpr c), if_neg (show ¬ nI (400 - l) < nI n from fun q => by have := (pu_lt (by omega) (by omega)).mp q; omega), if_neg (show ¬ (1 : Int32) = 0 by decide)]
      obtain ⟨x1, x2, pb', rt', a1, a2, a3⟩ := feed_loop (v := v) n l 10 9 pb rt c (by omega) (by omega) (fun i hi => h3 i (by rw [pu_toInt (by omega)]; omega))
      unfold sX7_append
      simp only [ltd]
      rw [a1, a2]
      refine ⟨rfl, rfl, ⟨l + n, c, rfl⟩, fun i hi => a3 i ?_⟩
      have hi : (i : Int) < (nI (l + n)).toInt := hi
      rw [pu_toInt (by omega)] at hi
      omega
    · rw [if_neg (show ¬ nI (l + n) ≤ (400 : Int32) from fun q => c ((pu_le (b := 400) (by omega) (by omega)).mp q)), if_pos (show nI (400 - l) < nI n from (pu_lt (by omega) (by omega)).mpr (show 400 - l < n by omega)), if_pos (show (0 : Int32) = 0 from rfl)]
      exact ⟨rfl, hh⟩
  · rw [in_no (a := 1) (b := 8) (by decide) (by decide) (by omega), if_pos (show (0 : Int32) = 0 from rfl)]
    by_cases q : nn < 1
    · rw [if_pos q]; exact ⟨rfl, hh⟩
    · rw [if_neg q, if_neg (fun z => hn (by rw [Int32.lt_iff_toInt_lt, i_1] at q; rw [Int32.le_iff_toInt_le, h8] at z; omega))]; exact ⟨rfl, hh⟩
def oc (o : Nat → Int32) : Nat → Nat
  | 0 => 0
  | k + 1 => oc o k + (if o k = 0 then 0 else 1)
theorem bits_oc (o : Nat → Int32) {K : Nat} (hK : K ≤ 5) : sJ6_bitCount_0f7a4 (nI (ob o K)) = nI (oc o K) := by
  rcases (show K = 0 ∨ K = 1 ∨ K = 2 ∨ K = 3 ∨ K = 4 ∨ K = 5 by omega) with rfl | rfl | rfl | rfl | rfl | rfl
  · show sJ6_bitCount_0f7a4 (nI 0) = nI 0
    decide +kernel
  · show sJ6_bitCount_0f7a4 (nI (0 + (if o 0 = 0 then 0 else 2 ^ 0))) = nI (0 + (if o 0 = 0 then 0 else 1))
    by_cases c0 : o 0 = 0 <;> simp only [c0, if_true, if_false] <;> decide +kernel
  · show sJ6_bitCount_0f7a4 (nI (0 + (if o 0 = 0 then 0 else 2 ^ 0) + (if o 1 = 0 then 0 else 2 ^ 1))) = nI (0 + (if o 0 = 0 then 0 else 1) + (if o 1 = 0 then 0 else 1))
    by_cases c0 : o 0 = 0 <;> by_cases c1 : o 1 = 0 <;> simp only [c0, c1, if_true, if_false] <;> decide +kernel
  · show sJ6_bitCount_0f7a4 (nI (0 + (if o 0 = 0 then 0 else 2 ^ 0) + (if o 1 = 0 then 0 else 2 ^ 1) + (if o 2 = 0 then 0 else 2 ^ 2))) = nI (0 + (if o 0 = 0 then 0 else 1) + (if o 1 = 0 then 0 else 1) + (if o 2 = 0 then 0 else 1))
    by_cases c0 : o 0 = 0 <;> by_cases c1 : o 1 = 0 <;> by_cases c2 : o 2 = 0 <;> simp only [c0, c1, c2, if_true, if_false] <;> decide +kernel
  · show sJ6_bitCount_0f7a4 (nI (0 + (if o 0 = 0 then 0 else 2 ^ 0) + (if o 1 = 0 then 0 else 2 ^ 1) + (if o 2 = 0 then 0 else 2 ^ 2) + (if o 3 = 0 then 0 else 2 ^ 3))) = nI (0 + (if o 0 = 0 then 0 else 1) + (if o 1 = 0 then 0 else 1) + (if o 2 = 0 then 0 else 1) + (if o 3 = 0 then 0 else 1))
    by_cases c0 : o 0 = 0 <;> by_cases c1 : o 1 = 0 <;> by_cases c2 : o 2 = 0 <;> by_cases c3 : o 3 = 0 <;> simp only [c0, c1, c2, c3, if_true, if_false] <;> decide +kernel
  · show sJ6_bitCount_0f7a4 (nI (0 + (if o 0 = 0 then 0 else 2 ^ 0) + (if o 1 = 0 then 0 else 2 ^ 1) + (if o 2 = 0 then 0 else 2 ^ 2) + (if o 3 = 0 then 0 else 2 ^ 3) + (if o 4 = 0 then 0 else 2 ^ 4))) = nI (0 + (if o 0 = 0 then 0 else 1) + (if o 1 = 0 then 0 else 1) + (if o 2 = 0 then 0 else 1) + (if o 3 = 0 then 0 else 1) + (if o 4 = 0 then 0 else 1))
    by_cases c0 : o 0 = 0 <;> by_cases c1 : o 1 = 0 <;> by_cases c2 : o 2 = 0 <;> by_cases c3 : o 3 = 0 <;> by_cases c4 : o 4 = 0 <;> simp only [c0, c1, c2, c3, c4, if_true, if_false] <;> decide +kernel
theorem oc_congr {o p : Nat → Int32} : ∀ k, (∀ j, j < k → o j = p j) → oc o k = oc p k := by
  intro k
  induction k with
  | zero => intro _; rfl
  | succ k ih =>
    intro h
    show oc o k + (if o k = 0 then 0 else 1) = oc p k + (if p k = 0 then 0 else 1)
    rw [ih (fun j hj => h j (by omega)), h k (by omega)]
theorem mcount84 {K : Nat} (hK : K ≤ 5) (w : Int32) (of state : Nat → Int32) : (lX11_count_84 w (nI K) of state 6 0 0).2 = Sg (fun j => if w = 2 then of (6 * j + 2) else state (12 + j)) K := by
  have key := loop_run (fun n i (s : Int32) => lX11_count_84 w (nI K) of state n (nI i) s) (fun i => Sg (fun j => if w = 2 then of (6 * j + 2) else state (12 + j)) i) K ?_ (6 - K) K (Nat.le_refl _)
  · have key' : lX11_count_84 w (nI K) of state (6 - K + K) (nI 0) 0 = lX11_count_84 w (nI K) of state (6 - K) (nI K) (Sg (fun j => if w = 2 then of (6 * j + 2) else state (12 + j)) K) := key
    rw [show 6 - K + K = 6 by omega, show nI 0 = (0 : Int32) from rfl] at key'
    rw [key', show 6 - K = (5 - K) + 1 by omega, lX11_count_84, if_pos (Int32.le_refl _)]
  · intro n i hi
    show lX11_count_84 w (nI K) of state (n + 1) (nI i) _ = lX11_count_84 w (nI K) of state n (nI (i + 1)) (Sg (fun j => if w = 2 then of (6 * j + 2) else state (12 + j)) i + (if w = 2 then of (6 * i + 2) else state (12 + i)))
    obtain ⟨g1, g2⟩ := c_go hK hi
    have n12 : ((12 : Int32) + nI i).toNatClampNeg = 12 + i := by rw [show (12 : Int32) = nI 12 from rfl, pu_add, pu_nat (by omega)]
    have t2 : sX11_told (nI i) 2 of = of (6 * i + 2) := told_eq (c := 2) rfl (by omega) (by omega) of
    rw [lX11_count_84, if_neg g1, n12, t2]
    simp only [ltd]
    rw [pu_succ]
theorem mcount84b : ∀ (n : Nat) (w kinds : Int32) (of state : Nat → Int32) (x y : Int32), lX11_count_84b w kinds of state n x y = lX11_count_84 w kinds of state n x y := by
  intro n
  induction n with
  | zero => intros; rfl
  | succ n ih =>
    intro w kinds of state x y
    rw [lX11_count_84b, lX11_count_84]
    simp only [ltd, ih]
theorem ccount {f : Nat → Int32} {kv : Nat → Nat → Int32} {K : Nat} (hK : K ≤ 5) (hf : f 2 = nI K) : sX2_farmerCount f kv = Sg (fun j => kv j 2) K := by
  have key := loop_run (fun n i (s : Int32) => lX2_farmerCount_4 f kv n (nI i) s) (fun i => Sg (fun j => kv j 2) i) K ?_ (6 - K) K (Nat.le_refl _)
  · have key' : lX2_farmerCount_4 f kv (6 - K + K) (nI 0) 0 = lX2_farmerCount_4 f kv (6 - K) (nI K) (Sg (fun j => kv j 2) K) := key
    rw [show 6 - K + K = 6 by omega, show nI 0 = (0 : Int32) from rfl] at key'
    unfold sX2_farmerCount
    rw [ltd, key', show 6 - K = (5 - K) + 1 by omega, lX2_farmerCount_4, if_pos (by rw [hf]; exact Int32.le_refl _)]
  · intro n i hi
    show lX2_farmerCount_4 f kv (n + 1) (nI i) _ = lX2_farmerCount_4 f kv n (nI (i + 1)) (Sg (fun j => kv j 2) i + kv i 2)
    obtain ⟨g1, g2⟩ := c_go hK hi
    rw [lX2_farmerCount_4, hf, if_neg g1, if_neg g2, pu_nat (show i < 2147483648 by omega), ltd, ltd, pu_succ]
theorem csheets {sv si : Nat → Nat → Int32} {lane many item : Nat → Int32} (h : SR sv si lane many item) : sX10_sheetCount sv = (lX11_count_46 lane 9 0 0).2 := by
  have key : ∀ m i n1 n2 (x : Int32), i + m = 8 → m < n1 → m < n2 → (lX10_sheetCount_13 sv n1 (nI i) x).2 = (lX11_count_46 lane n2 (nI i) x).2 := by
    intro m
    induction m with
    | zero =>
      intro i n1 n2 x e1 e2 e3
      obtain ⟨n1, rfl⟩ : ∃ n', n1 = n' + 1 := ⟨n1 - 1, by omega⟩
      obtain ⟨n2, rfl⟩ : ∃ n', n2 = n' + 1 := ⟨n2 - 1, by omega⟩
      have : i = 8 := by omega
      subst this
      rw [lX10_sheetCount_13, if_pos (show (8 : Int32) ≤ nI 8 from Int32.le_refl _), lX11_count_46, if_pos (show (8 : Int32) ≤ nI 8 from Int32.le_refl _)]
    | succ m ih =>
      intro i n1 n2 x e1 e2 e3
      obtain ⟨n1, rfl⟩ : ∃ n', n1 = n' + 1 := ⟨n1 - 1, by omega⟩
      obtain ⟨n2, rfl⟩ : ∃ n', n2 = n' + 1 := ⟨n2 - 1, by omega⟩
      have g : ¬ (8 : Int32) ≤ nI i := fun q => by have := (pu_le (a := 8) (by omega) (by omega)).mp q; omega
      rw [lX10_sheetCount_13, if_neg g, lX11_count_46, if_neg g, pu_nat (show i < 2147483648 by omega)]
      simp only [ltd]
      rw [pu_succ]
      rcases h.ln (show i < 8 by omega) with ⟨l1, -, l3⟩ | ⟨l1, -, l3⟩
      · rw [if_pos l1, if_neg l3]; exact ih (i + 1) n1 n2 _ (by omega) (by omega) (by omega)
      · rw [if_neg l1, if_pos l3, Int32.add_zero]; exact ih (i + 1) n1 n2 _ (by omega) (by omega) (by omega)
  unfold sX10_sheetCount
  rw [ltd]
  have e := key 8 0 9 9 0 (by omega) (by omega) (by omega)
  rw [show nI 0 = (0 : Int32) from rfl] at e
  exact e
theorem count_ok {g kinds print low high lot : Int32} {Y : Nat} {market of state f : Nat → Int32} {kv : Nat → Nat → Int32} {mv : Nat → Int32} {sv si : Nat → Nat → Int32} {lane many item : Nat → Int32} {pl tp : Int32} {pb rt : Nat → Int32} (h : LI g kinds Y print low high lot market of state f kv mv) (hs : SR sv si lane many item) (ht : TR pl tp pb rt) (w : Int32) : sX10_count w f kv pl sv = (sX11_count w kinds tp lane of state).1 := by
  obtain ⟨K, hK, hf, hkd, hld⟩ := h.kd
  subst hkd
  have hd : ∀ j, j < K → LD K Y print low high lot market of state f kv mv := fun j hj => hld (by omega)
  unfold sX10_count sX11_count
  simp only [ltd]
  by_cases c0 : w = 0
  · rw [if_pos c0, if_pos c0]; exact csheets hs
  · rw [if_neg c0, if_neg c0]
    by_cases c1 : w = 1
    · rw [if_pos c1, if_pos c1]; exact hf
    · rw [if_neg c1, if_neg c1]
      by_cases c2 : w = 2
      · rw [if_pos c2, if_pos c2, ccount hK hf, mcount84 hK, c2]
        refine Sg_congr K (fun j hj => ?_)
        rw [if_pos rfl]
        exact (hd j hj).kd j hj 2 (by omega)
      · rw [if_neg c2, if_neg c2]
        by_cases c3 : w = 3
        · rw [if_pos c3, if_pos c3]
          unfold sX2_outCount
          simp only [ltd]
          rw [outBits_eq hK hf, bits_oc _ hK, mcount84b, mcount84 hK, c3]
          have e1 : ∀ n, n ≤ K → Sg (fun j => if (3 : Int32) = 2 then of (6 * j + 2) else state (12 + j)) n = nI (oc (fun j => kv j 7) n) := by
            intro n
            induction n with
            | zero => intro _; rfl
            | succ n ih =>
              intro hn
              show Sg _ n + (if (3 : Int32) = 2 then of (6 * n + 2) else state (12 + n)) = nI (oc (fun j => kv j 7) n + (if kv n 7 = 0 then 0 else 1))
              have d := hd n (by omega)
              rw [ih (by omega), if_neg (show ¬ (3 : Int32) = 2 by decide), ← d.ko n (by omega)]
              rcases d.kz n (by omega) with z | z
              · rw [z, if_pos rfl, Int32.add_zero]; rfl
              · rw [z, if_neg (show ¬ (1 : Int32) = 0 by decide), pu_succ]
          exact (e1 K (Nat.le_refl _)).symm
        · rw [if_neg c3, if_neg c3]
          by_cases c4 : w = 4
          · rw [if_pos c4, if_pos c4]; exact ht.1
          · rw [if_neg c4, if_neg c4]

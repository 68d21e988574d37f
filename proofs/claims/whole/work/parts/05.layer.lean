/-! MY LAYER: a heap is a function from addresses to entries; cq_W is the machine at a frame over such a heap; a row an instruction -/
abbrev cq_V : Type := Option Nat ⊕ (Int32 ⊕ (Int64 ⊕ (UInt32 ⊕ UInt64)))
abbrev cqR (r : Option Nat) : cq_V := .inl r
abbrev cqI (x : Int32) : cq_V := .inr (.inl x)
abbrev cqJ (x : Int64) : cq_V := .inr (.inr (.inl x))
abbrev cqF (x : UInt32) : cq_V := .inr (.inr (.inr (.inl x)))
abbrev cqD (x : UInt64) : cq_V := .inr (.inr (.inr (.inr x)))
def cq_v : cq_V → Value
  | .inl r => va_rf r
  | .inr (.inl x) => .int x
  | .inr (.inr (.inl x)) => .long x
  | .inr (.inr (.inr (.inl x))) => .float x
  | .inr (.inr (.inr (.inr x))) => .double x
def cq_c2 : cq_V → Bool
  | .inl _ => false
  | .inr (.inl _) => false
  | .inr (.inr (.inl _)) => true
  | .inr (.inr (.inr (.inl _))) => false
  | .inr (.inr (.inr (.inr _))) => true
theorem cq_v_cat (v : cq_V) : (cq_v v).category = if cq_c2 v = true then 2 else 1 := by
  rcases v with (_ | a) | x | x | x | x <;> rfl
theorem cq_v_c2 {v : cq_V} : (cq_v v).category = 2 ↔ cq_c2 v = true := by
  rw [cq_v_cat]
  cases cq_c2 v <;> simp
def cq_al (lv : List (Option cq_V)) : List (Nat × Value) := (List.range lv.length).filterMap fun j => ((lv[j]?).getD none).map fun v => (j, cq_v v)
theorem cq_al_mem {lv : List (Option cq_V)} {j : Nat} {x : Value} : (j, x) ∈ cq_al lv ↔ ∃ v, lv[j]? = some (some v) ∧ x = cq_v v := by
  simp only [cq_al, List.mem_filterMap, List.mem_range]
  constructor
  · rintro ⟨i, hi, h⟩
    cases hl : lv[i]? with
    | none => rw [hl] at h; cases h
    | some o =>
      rw [hl] at h
      cases o with
      | none => cases h
      | some v =>
        have h2 : (i, cq_v v) = (j, x) := Option.some.inj h
        cases h2
        exact ⟨v, hl, rfl⟩
  · rintro ⟨v, h, rfl⟩
    exact ⟨j, (List.getElem?_eq_some_iff.mp h).1, by rw [h]; rfl⟩
def cq_L (ls : Array Slot) (lv : List (Option cq_V)) : Prop := lv_has ls lv.length (cq_al lv)
theorem cq_L_at {ls : Array Slot} {lv : List (Option cq_V)} {i : Nat} {v : cq_V} (h : cq_L ls lv) (hi : lv[i]? = some (some v)) : ls[i]? = some (.val (cq_v v)) := h.2.2 (i, cq_v v) (cq_al_mem.mpr ⟨v, hi, rfl⟩)
def cq_clr : List (Option cq_V) → Nat → List (Option cq_V)
  | lv, 0 => lv
  | lv, i + 1 => match lv[i]? with
    | some (some v) => bif cq_c2 v then lv.set i none else lv
    | _ => lv
def cq_s1 (lv : List (Option cq_V)) (i : Nat) (v : cq_V) : List (Option cq_V) := (cq_clr lv i).set i (some v)
def cq_s2 (lv : List (Option cq_V)) (i : Nat) (v : cq_V) : List (Option cq_V) := ((cq_clr lv i).set i (some v)).set (i + 1) none
theorem cq_clr_len (lv : List (Option cq_V)) (i : Nat) : (cq_clr lv i).length = lv.length := by
  cases i with
  | zero => rfl
  | succ i =>
    simp only [cq_clr]
    split
    · rename_i v _
      cases cq_c2 v <;> simp
    · rfl
theorem cq_clr_at {lv : List (Option cq_V)} {i j : Nat} {v : cq_V} (h : (cq_clr lv i)[j]? = some (some v)) : lv[j]? = some (some v) ∧ ¬ (j + 1 = i ∧ cq_c2 v = true) := by
  cases i with
  | zero => exact ⟨h, fun q => by omega⟩
  | succ i =>
    simp only [cq_clr] at h
    split at h
    · rename_i u hu
      cases hc : cq_c2 u with
      | false =>
        rw [hc] at h
        refine ⟨h, fun q => ?_⟩
        have hji : j = i := by omega
        subst hji
        have h3 : lv[j]? = some (some v) := h
        rw [hu] at h3
        have h4 : u = v := Option.some.inj (Option.some.inj h3)
        rw [h4, q.2] at hc
        cases hc
      | true =>
        rw [hc] at h
        have h2 : (lv.set i none)[j]? = some (some v) := h
        by_cases hji : j = i
        · subst hji
          rw [List.getElem?_set_self (List.getElem?_eq_some_iff.mp hu).1] at h2
          cases h2
        · rw [List.getElem?_set_ne (Ne.symm hji)] at h2
          exact ⟨h2, fun q => hji (by omega)⟩
    · rename_i hu
      refine ⟨h, fun q => ?_⟩
      have hji : j = i := by omega
      subst hji
      exact hu v h
theorem cq_L_s1 {ls : Array Slot} {lv : List (Option cq_V)} {i : Nat} {v : cq_V} (h : lv_has ls lv.length ((i, cq_v v) :: (cq_al lv).filter (fun q => !(q.1 == i) && !(q.1 + 1 == i && q.2.category == 2)))) : cq_L ls (cq_s1 lv i v) := by
  refine ⟨by rw [cq_s1, List.length_set, cq_clr_len]; exact h.1, h.2.1, fun q hq => h.2.2 q ?_⟩
  obtain ⟨j, x⟩ := q
  obtain ⟨u, h1, rfl⟩ := cq_al_mem.mp hq
  by_cases hji : j = i
  · subst hji
    have hl : j < (cq_clr lv j).length := by have := (List.getElem?_eq_some_iff.mp h1).1; rwa [cq_s1, List.length_set] at this
    rw [cq_s1, List.getElem?_set_self hl] at h1
    have : v = u := Option.some.inj (Option.some.inj h1)
    subst this
    exact List.mem_cons_self
  · rw [cq_s1, List.getElem?_set_ne (Ne.symm hji)] at h1
    obtain ⟨h2, h3⟩ := cq_clr_at h1
    refine List.mem_cons_of_mem _ (List.mem_filter.mpr ⟨cq_al_mem.mpr ⟨u, h2, rfl⟩, ?_⟩)
    have e1 : (j == i) = false := by simp [hji]
    have e2 : (j + 1 == i && (cq_v u).category == 2) = false := by
      rw [Bool.and_eq_false_iff]
      by_cases h4 : j + 1 = i
      · right
        have : ¬ (cq_v u).category = 2 := fun h5 => h3 ⟨h4, cq_v_c2.mp h5⟩
        simp [this]
      · left
        simp [h4]
    show (!(j == i) && !(j + 1 == i && (cq_v u).category == 2)) = true
    rw [e1, e2]
    rfl
theorem cq_L_s2 {ls : Array Slot} {lv : List (Option cq_V)} {i : Nat} {v : cq_V} (h : lv_has ls lv.length ((i, cq_v v) :: (cq_al lv).filter (fun q => !(q.1 == i) && (!(q.1 == i + 1) && !(q.1 + 1 == i && q.2.category == 2))))) : cq_L ls (cq_s2 lv i v) := by
  refine ⟨by rw [cq_s2, List.length_set, List.length_set, cq_clr_len]; exact h.1, h.2.1, fun q hq => h.2.2 q ?_⟩
  obtain ⟨j, x⟩ := q
  obtain ⟨u, h1, rfl⟩ := cq_al_mem.mp hq
  have hj1 : ¬ j = i + 1 := fun e => by
    subst e
    have hl : i + 1 < ((cq_clr lv i).set i (some v)).length := by have := (List.getElem?_eq_some_iff.mp h1).1; rwa [cq_s2, List.length_set] at this
    rw [cq_s2, List.getElem?_set_self hl] at h1
    cases h1
  rw [cq_s2, List.getElem?_set_ne (Ne.symm hj1)] at h1
  by_cases hji : j = i
  · subst hji
    have hl : j < (cq_clr lv j).length := by have := (List.getElem?_eq_some_iff.mp h1).1; rwa [List.length_set] at this
    rw [List.getElem?_set_self hl] at h1
    have : v = u := Option.some.inj (Option.some.inj h1)
    subst this
    exact List.mem_cons_self
  · rw [List.getElem?_set_ne (Ne.symm hji)] at h1
    obtain ⟨h2, h3⟩ := cq_clr_at h1
    refine List.mem_cons_of_mem _ (List.mem_filter.mpr ⟨cq_al_mem.mpr ⟨u, h2, rfl⟩, ?_⟩)
    have e1 : (j == i) = false := by simp [hji]
    have e3 : (j == i + 1) = false := by simp [hj1]
    have e2 : (j + 1 == i && (cq_v u).category == 2) = false := by
      rw [Bool.and_eq_false_iff]
      by_cases h4 : j + 1 = i
      · right
        have : ¬ (cq_v u).category = 2 := fun h5 => h3 ⟨h4, cq_v_c2.mp h5⟩
        simp [this]
      · left
        simp [h4]
    show (!(j == i) && (!(j == i + 1) && !(j + 1 == i && (cq_v u).category == 2))) = true
    rw [e1, e2, e3]
    rfl
/-- fewer locals -/
def cq_mask : List Bool → List (Option cq_V) → List (Option cq_V)
  | b :: bs, v :: lv => (bif b then v else none) :: cq_mask bs lv
  | [], v :: lv => none :: cq_mask [] lv
  | _, [] => []
theorem cq_mask_len : ∀ (bs : List Bool) (lv : List (Option cq_V)), (cq_mask bs lv).length = lv.length
  | _ :: bs, _ :: lv => by simp [cq_mask, cq_mask_len bs lv]
  | [], _ :: lv => by simp [cq_mask, cq_mask_len [] lv]
  | [], [] => rfl
  | _ :: _, [] => rfl
theorem cq_mask_at : ∀ (bs : List Bool) (lv : List (Option cq_V)) (j : Nat) (v : cq_V), (cq_mask bs lv)[j]? = some (some v) → lv[j]? = some (some v)
  | b :: bs, u :: lv, 0, v, h => by
    cases b with
    | true => exact h
    | false => cases h
  | b :: bs, u :: lv, j + 1, v, h => cq_mask_at bs lv j v h
  | [], u :: lv, 0, v, h => by cases h
  | [], u :: lv, j + 1, v, h => cq_mask_at [] lv j v h
  | [], [], j, v, h => by cases h
  | _ :: _, [], j, v, h => by cases h
theorem cq_L_mask {ls : Array Slot} {lv : List (Option cq_V)} (bs : List Bool) (h : cq_L ls lv) : cq_L ls (cq_mask bs lv) := by
  refine ⟨by rw [cq_mask_len]; exact h.1, h.2.1, fun q hq => ?_⟩
  obtain ⟨j, x⟩ := q
  obtain ⟨u, h1, rfl⟩ := cq_al_mem.mp hq
  exact cq_L_at h (cq_mask_at bs lv j u h1)
/-! heaps -/
abbrev cq_E : Type := (Nat × List cq_V) ⊕ (Nat × vp_A)
abbrev cq_H : Type := Nat → Option cq_E
abbrev cq_o (ci : Nat) (fs : List cq_V) : cq_E := .inl (ci, fs)
abbrev cq_aI (n : Nat) (f : Nat → Int32) : cq_E := .inr (0, n, .inl f)
abbrev cq_aJ (n : Nat) (f : Nat → Int64) : cq_E := .inr (1, n, .inr (.inl f))
abbrev cq_aD (n : Nat) (f : Nat → UInt64) : cq_E := .inr (2, n, .inr (.inr (.inr (.inl f))))
abbrev cq_aT (n : Nat) (f : Nat → Option Nat) : cq_E := .inr (3, n, .inr (.inr (.inr (.inr f))))
abbrev cq_aC (n : Nat) (f : Nat → Option Nat) : cq_E := .inr (4, n, .inr (.inr (.inr (.inr f))))
abbrev cq_G : Type := va_G × (Nat → ClassId)
def cq_e (dA : Nat → ClassId) : cq_E → va_E
  | .inl (ci, fs) => .inr (ci, fs.map cq_v)
  | .inr (k, a) => .inl (dA k, a)
def cq_up (h : cq_H) (a : Nat) (x : cq_E) : cq_H := fun b => if b = a then some x else h b
theorem cq_up_self (h : cq_H) (a : Nat) (x : cq_E) : cq_up h a x a = some x := by simp [cq_up]
theorem cq_up_ne (h : cq_H) {a b : Nat} (x : cq_E) (hb : b ≠ a) : cq_up h a x b = h b := by simp [cq_up, hb]
theorem cq_up_up (h : cq_H) (a : Nat) (x y : cq_E) : cq_up (cq_up h a x) a y = cq_up h a y := by
  funext b
  by_cases hb : b = a <;> simp [cq_up, hb]
theorem cq_up_eq (h : cq_H) {a : Nat} {x : cq_E} (ha : h a = some x) : cq_up h a x = h := by
  funext b
  by_cases hb : b = a
  · subst hb; simp [cq_up, ha]
  · simp [cq_up, hb]
theorem cq_up_comm (h : cq_H) {a b : Nat} (x y : cq_E) (hab : a ≠ b) : cq_up (cq_up h a x) b y = cq_up (cq_up h b y) a x := by
  funext c
  by_cases hc : c = a
  · subst hc; simp [cq_up, hab]
  · by_cases hd : c = b <;> simp [cq_up, hc, hd]
/-- two addresses whose entries differ in kind are apart -/
theorem cq_ne {h : cq_H} {a b : Nat} {x y : cq_E} (ha : h a = some x) (hb : h b = some y) (hxy : x ≠ y) : a ≠ b := fun e => hxy (by subst e; rw [ha] at hb; exact Option.some.inj hb)
abbrev cq_cl : List vw_C := [(RX0, TX0, 2), (RX1, TX1, 4), (RX3, TX3, 3), (RX6, TX6, 3), (RX7, TX7, 3), (RX8, TX8, 6), (RX9, TX9, 17)]
abbrev cq_tys (dA : Nat → ClassId) : List (ClassId × FieldType) := [(dA 0, .int), (dA 1, .long), (dA 2, .double), (dA 3, .object RX5), (dA 4, .object RX1)]
def cq_nc : List (String × String) := [("ColumnHouse$Card", "ColumnHouse$Row"), ("ColumnHouse$WholeRow", "ColumnHouse$Card"), ("ColumnHouse$PointRow", "ColumnHouse$Card"), ("ColumnHouse$ThingRow", "ColumnHouse$Card")]
def cq_wd (Γ : cq_G) (A : Nat → Prop) (h : cq_H) (H : Heap) : Prop := ∃ (L : List Nat) (f : Nat → va_E), va_P Γ.1 cq_cl (va_pl L f) H ∧ va_D A (va_pl L f) ∧ ∀ (a : Nat) (x : cq_E), h a = some x → a ∈ L ∧ f a = cq_e Γ.2 x
def cq_tw (U : State) : Prop := ∀ (a : Array Value), ∀ w ∈ lw_tbl, w.before a U = true
def cq_kn (Γ : cq_G) (U : State) : Prop := va_K Γ.1 cq_cl (cq_tys Γ.2) U ∧ cq_tw U ∧ ∀ q ∈ cq_nc, va_Nc q.1 q.2 U
def cq_in (Γ : cq_G) (A : Nat → Prop) (h : cq_H) (U : State) : Prop := cq_wd Γ A h U.heap ∧ cq_kn Γ U ∧ ∀ q : Nat, U.heap.size ≤ q → A q
def cq_wc (w : Cond) : Bool := goodWord w || (match w with
  | .methodLinkNest _ _ _ _ => true
  | .declares _ => true
  | .castable _ _ => true
  | .arrayOver (.object _) => true
  | _ => false)
theorem cq_wall : lw_tbl.all cq_wc = true := by decide +kernel
theorem cq_word_warm {w : Cond} (hw : cq_wc w = true) {s U : State} (hW : s.WarmedH U.vm) {a : Array Value} (h : w.before a s = true) (a' : Array Value) : w.before a' U = true := by
  unfold cq_wc at hw
  rcases Bool.or_eq_true_iff.mp hw with hg | hg
  · exact word_at hW (good_of_word hg) h
  · cases w with
    | methodLinkNest c i x hh => exact va_Nw.use rfl (va_Nw.warmM hW (va_Nw.of rfl h))
    | declares x => exact va_Nw.use rfl (va_Nw.warmD hW (va_Nw.of rfl h))
    | castable C T => exact va_Nw.use rfl (va_Nw.warmC hW (va_Nw.of rfl h))
    | arrayOver ty =>
      cases ty with
      | object C => exact va_AO.use (va_AO.moved hW.alike (va_AO.of h))
      | _ => cases hg
    | _ => cases hg
theorem cq_tw.warm {s U : State} (hW : s.WarmedH U.vm) {a : Array Value} (h : ∀ w ∈ lw_tbl, w.before a s = true) : cq_tw U := fun a' w hw => cq_word_warm (List.all_eq_true.mp cq_wall w hw) hW (h w hw) a'
theorem cq_kn.warm {Γ : cq_G} {s U : State} (hW : s.WarmedH U.vm) (h : cq_kn Γ s) : cq_kn Γ U := ⟨h.1.moved hW.alike, cq_tw.warm hW (h.2.1 #[]), fun q hq => (h.2.2 q hq).moved hW.alike⟩
theorem cq_wd.get {Γ : cq_G} {A : Nat → Prop} {h : cq_H} {H : Heap} (hw : cq_wd Γ A h H) {a : Nat} {x : cq_E} (ha : h a = some x) : ∃ (ws : va_W) (k : Nat), va_P Γ.1 cq_cl ws H ∧ ws[k]? = some (a, cq_e Γ.2 x) := by
  obtain ⟨L, f, hP, hD, hf⟩ := hw
  obtain ⟨h1, h2⟩ := hf a x ha
  obtain ⟨k, hk⟩ := va_pl_get (X := []) (f := f) h1
  rw [List.nil_append] at hk
  exact ⟨va_pl L f, k, hP, by rw [hk, h2]⟩
/-- what a write leaves -/
theorem cq_wd.put {Γ : cq_G} {A : Nat → Prop} {h : cq_H} {H : Heap} (hw : cq_wd Γ A h H) {a : Nat} {x y : cq_E} (ha : h a = some x) : ∃ (ws : va_W) (k : Nat), va_P Γ.1 cq_cl ws H ∧ va_D A ws ∧ ws[k]? = some (a, cq_e Γ.2 x) ∧
    ∀ H1 : Heap, va_P Γ.1 cq_cl (ws.set k (a, cq_e Γ.2 y)) H1 → va_D A (ws.set k (a, cq_e Γ.2 y)) → cq_wd Γ A (cq_up h a y) H1 := by
  obtain ⟨L, f, hP, hD, hf⟩ := hw
  obtain ⟨h1, h2⟩ := hf a x ha
  obtain ⟨k, hk⟩ := va_pl_get (X := []) (f := f) h1
  have hs := va_pl_set (X := []) (e := cq_e Γ.2 y) (by rw [List.nil_append]; exact hD) h1 hk
  rw [List.nil_append] at hk
  rw [List.nil_append, List.nil_append] at hs
  refine ⟨va_pl L f, k, hP, hD, by rw [hk, h2], fun H1 hP1 hD1 => ?_⟩
  rw [hs] at hP1 hD1
  refine ⟨L, va_up f a (cq_e Γ.2 y), hP1, hD1, fun b z hz => ?_⟩
  by_cases hb : b = a
  · subst hb
    rw [cq_up_self] at hz
    cases hz
    exact ⟨h1, va_up_self _ _ _⟩
  · rw [cq_up_ne _ _ hb] at hz
    obtain ⟨g1, g2⟩ := hf b z hz
    exact ⟨g1, by rw [va_up_ne _ _ hb]; exact g2⟩
/-- what a new cell leaves -/
theorem cq_wd.new {Γ : cq_G} {A : Nat → Prop} {h : cq_H} {H : Heap} (hw : cq_wd Γ A h H) : ∃ (ws : va_W), va_P Γ.1 cq_cl ws H ∧ va_D A ws ∧
    ∀ (H1 : Heap) (q : Nat) (y : cq_E), va_P Γ.1 cq_cl (ws ++ [(q, cq_e Γ.2 y)]) H1 → va_D A (ws ++ [(q, cq_e Γ.2 y)]) → cq_wd Γ A (cq_up h q y) H1 ∧ h q = none := by
  obtain ⟨L, f, hP, hD, hf⟩ := hw
  refine ⟨va_pl L f, hP, hD, fun H1 q y hP1 hD1 => ?_⟩
  have hq : q ∉ L := fun hm => by
    obtain ⟨i, hi⟩ := List.getElem?_of_mem (show (q, f q) ∈ va_pl L f from List.mem_map.mpr ⟨q, hm, rfl⟩)
    have hl := (List.getElem?_eq_some_iff.mp hi).1
    have h1 : (va_pl L f ++ [(q, cq_e Γ.2 y)])[i]? = some (q, f q) := by rw [List.getElem?_append_left hl]; exact hi
    have h2 : (va_pl L f ++ [(q, cq_e Γ.2 y)])[(va_pl L f).length]? = some (q, cq_e Γ.2 y) := by rw [List.getElem?_append_right (Nat.le_refl _), Nat.sub_self]; rfl
    have := hD1.1 i _ _ _ h1 h2 rfl
    omega
  rw [va_pl_push hq] at hP1 hD1
  refine ⟨⟨L ++ [q], va_up f q (cq_e Γ.2 y), hP1, hD1, fun b z hz => ?_⟩, ?_⟩
  · by_cases hb : b = q
    · subst hb
      rw [cq_up_self] at hz
      cases hz
      exact ⟨List.mem_append_right _ (List.mem_singleton.mpr rfl), va_up_self _ _ _⟩
    · rw [cq_up_ne _ _ hb] at hz
      obtain ⟨g1, g2⟩ := hf b z hz
      exact ⟨List.mem_append_left _ g1, by rw [va_up_ne _ _ hb]; exact g2⟩
  · cases hz : h q with
    | none => rfl
    | some z => exact absurd (hf q z hz).1 hq
/-! the machine at a frame -/
abbrev cq_C : Type := Program × Launch × Env × Room × State × MethodId × Array Value × List Frame × Method × Code × (State → Prop) × cq_G × (Nat → Prop)
abbrev cq_C.p (X : cq_C) : Program := X.1
abbrev cq_C.l (X : cq_C) : Launch := X.2.1
abbrev cq_C.e (X : cq_C) : Env := X.2.2.1
abbrev cq_C.R (X : cq_C) : Room := X.2.2.2.1
abbrev cq_C.s (X : cq_C) : State := X.2.2.2.2.1
abbrev cq_C.m (X : cq_C) : MethodId := X.2.2.2.2.2.1
abbrev cq_C.args (X : cq_C) : Array Value := X.2.2.2.2.2.2.1
abbrev cq_C.below (X : cq_C) : List Frame := X.2.2.2.2.2.2.2.1
abbrev cq_C.meth (X : cq_C) : Method := X.2.2.2.2.2.2.2.2.1
abbrev cq_C.c (X : cq_C) : Code := X.2.2.2.2.2.2.2.2.2.1
abbrev cq_C.Q (X : cq_C) : State → Prop := X.2.2.2.2.2.2.2.2.2.2.1
abbrev cq_C.G (X : cq_C) : cq_G := X.2.2.2.2.2.2.2.2.2.2.2.1
abbrev cq_C.A (X : cq_C) : Nat → Prop := X.2.2.2.2.2.2.2.2.2.2.2.2
abbrev cq_Wm (X : cq_C) (H : Heap) (locs : List Loc) (k n : Nat) (g : JFrame) : Prop := W X.p X.l X.e X.R X.s X.m X.args X.below X.meth X.c H locs k n X.Q g
def cq_W (X : cq_C) (pc : Nat) (lv : List (Option cq_V)) (st : List cq_V) (h : cq_H) (k n : Nat) : Prop :=
  ∀ (H : Heap) (locs : List Loc) (ls : Array Slot), cq_L ls lv → cq_wd X.G X.A h H → va_S X.A X.s.heap H locs → cq_Wm X H locs k n (F0 X.m pc ls (st.map cq_v))
def cq_F (X : cq_C) (cc : ByteArray) (nL : Nat) (own : String) : Prop := X.p.tables.exec = Jvm.exec ∧ X.c.code = cc ∧ X.c.maxLocals = nL ∧ X.s.vm.findClass own = some X.m.cls ∧ cq_kn X.G X.s ∧ (∀ q : Nat, X.s.heap.size ≤ q → X.A q) ∧ X.meth.locks = false
section cqRows
variable {X : cq_C} {cc : ByteArray} {nL : Nat} {own : String} {pc : Nat} {lv : List (Option cq_V)} {st : List cq_V} {h : cq_H} {k n : Nat}
theorem cq_wid {k2 n2 : Nat} (hk : k ≤ k2) (hn : n ≤ n2) (w : cq_W X pc lv st h k2 n2) : cq_W X pc lv st h k n := fun H locs ls hl hw hs => W.widen hk hn (w H locs ls hl hw hs)
theorem cq_msk (bs : List Bool) (w : cq_W X pc (cq_mask bs lv) st h k n) : cq_W X pc lv st h k n := fun H locs ls hl hw hs => w H locs ls (cq_L_mask bs hl) hw hs
theorem cq_fgt {h2 : cq_H} (hh : ∀ (a : Nat) (x : cq_E), h2 a = some x → h a = some x) (w : cq_W X pc lv st h2 k n) : cq_W X pc lv st h k n := fun H locs ls hl hw hs => w H locs ls hl (by obtain ⟨L, f, h1, h3, h4⟩ := hw; exact ⟨L, f, h1, h3, fun a x hx => h4 a x (hh a x hx)⟩) hs
theorem cq_iconst (F : cq_F X cc nL own) {i : Int} (v : Int32) (d : decode cc pc = .ok (.iconst i, 1)) (hv : Int32.ofInt i = v) (w : cq_W X (pc + 1) lv (cqI v :: st) h k n) : cq_W X pc lv (st) h k n := fun H locs ls hl hw hs => lv_iconst F.1 F.2.1 d hv (w H locs ls hl hw hs)
theorem cq_bipush (F : cq_F X cc nL own) {i : Int} (v : Int32) (d : decode cc pc = .ok (.bipush i, 2)) (hv : (Int8.ofInt i).toInt32 = v) (w : cq_W X (pc + 2) lv (cqI v :: st) h k n) : cq_W X pc lv (st) h k n := fun H locs ls hl hw hs => lv_bipush F.1 F.2.1 d hv (w H locs ls hl hw hs)
theorem cq_sipush (F : cq_F X cc nL own) {i : Int} (v : Int32) (d : decode cc pc = .ok (.sipush i, 3)) (hv : (Int16.ofInt i).toInt32 = v) (w : cq_W X (pc + 3) lv (cqI v :: st) h k n) : cq_W X pc lv (st) h k n := fun H locs ls hl hw hs => lv_sipush F.1 F.2.1 d hv (w H locs ls hl hw hs)
theorem cq_lconst (F : cq_F X cc nL own) {i : Fin 2} (v : Int64) (d : decode cc pc = .ok (.lconst i, 1)) (hv : Int64.ofNat (i : Nat) = v) (w : cq_W X (pc + 1) lv (cqJ v :: st) h k n) : cq_W X pc lv (st) h k n := fun H locs ls hl hw hs => lv_lconst F.1 F.2.1 d hv (w H locs ls hl hw hs)
theorem cq_dconst0 (F : cq_F X cc nL own) (d : decode cc pc = .ok (.dconst 0, 1)) (w : cq_W X (pc + 1) lv (cqD FP.dconst0 :: st) h k n) : cq_W X pc lv (st) h k n := fun H locs ls hl hw hs => lv_dconst0 F.1 F.2.1 d (w H locs ls hl hw hs)
theorem cq_dconst1 (F : cq_F X cc nL own) (d : decode cc pc = .ok (.dconst 1, 1)) (w : cq_W X (pc + 1) lv (cqD FP.dconst1 :: st) h k n) : cq_W X pc lv (st) h k n := fun H locs ls hl hw hs => lv_dconst1 F.1 F.2.1 d (w H locs ls hl hw hs)
theorem cq_null (F : cq_F X cc nL own) (d : decode cc pc = .ok (.aconst_null, 1)) (w : cq_W X (pc + 1) lv (cqR none :: st) h k n) : cq_W X pc lv (st) h k n := fun H locs ls hl hw hs => lv_null F.1 F.2.1 d (w H locs ls hl hw hs)
theorem cq_iadd (F : cq_F X cc nL own) {x y : Int32} (d : decode cc pc = .ok (.iadd, 1)) (w : cq_W X (pc + 1) lv (cqI (x + y) :: st) h k n) : cq_W X pc lv (cqI y :: cqI x :: st) h k n := fun H locs ls hl hw hs => lv_iadd F.1 F.2.1 d (w H locs ls hl hw hs)
theorem cq_isub (F : cq_F X cc nL own) {x y : Int32} (d : decode cc pc = .ok (.isub, 1)) (w : cq_W X (pc + 1) lv (cqI (x - y) :: st) h k n) : cq_W X pc lv (cqI y :: cqI x :: st) h k n := fun H locs ls hl hw hs => lv_isub F.1 F.2.1 d (w H locs ls hl hw hs)
theorem cq_imul (F : cq_F X cc nL own) {x y : Int32} (d : decode cc pc = .ok (.imul, 1)) (w : cq_W X (pc + 1) lv (cqI (x * y) :: st) h k n) : cq_W X pc lv (cqI y :: cqI x :: st) h k n := fun H locs ls hl hw hs => lv_imul F.1 F.2.1 d (w H locs ls hl hw hs)
theorem cq_iand (F : cq_F X cc nL own) {x y : Int32} (d : decode cc pc = .ok (.iand, 1)) (w : cq_W X (pc + 1) lv (cqI (x &&& y) :: st) h k n) : cq_W X pc lv (cqI y :: cqI x :: st) h k n := fun H locs ls hl hw hs => lv_iand F.1 F.2.1 d (w H locs ls hl hw hs)
theorem cq_ixor (F : cq_F X cc nL own) {x y : Int32} (d : decode cc pc = .ok (.ixor, 1)) (w : cq_W X (pc + 1) lv (cqI (x ^^^ y) :: st) h k n) : cq_W X pc lv (cqI y :: cqI x :: st) h k n := fun H locs ls hl hw hs => lv_ixor F.1 F.2.1 d (w H locs ls hl hw hs)
theorem cq_ishr (F : cq_F X cc nL own) {x y : Int32} (d : decode cc pc = .ok (.ishr, 1)) (w : cq_W X (pc + 1) lv (cqI (x >>> (y &&& 31)) :: st) h k n) : cq_W X pc lv (cqI y :: cqI x :: st) h k n := fun H locs ls hl hw hs => lv_ishr F.1 F.2.1 d (w H locs ls hl hw hs)
theorem cq_irem (F : cq_F X cc nL own) {x y : Int32} (d : decode cc pc = .ok (.irem, 1)) (hy : ¬ y = 0) (w : cq_W X (pc + 1) lv (cqI (x - x / y * y) :: st) h k n) : cq_W X pc lv (cqI y :: cqI x :: st) h k n := fun H locs ls hl hw hs => lv_irem F.1 F.2.1 d hy (w H locs ls hl hw hs)
theorem cq_land (F : cq_F X cc nL own) {x y : Int64} (d : decode cc pc = .ok (.land, 1)) (w : cq_W X (pc + 1) lv (cqJ (x &&& y) :: st) h k n) : cq_W X pc lv (cqJ y :: cqJ x :: st) h k n := fun H locs ls hl hw hs => lv_land F.1 F.2.1 d (w H locs ls hl hw hs)
theorem cq_lor (F : cq_F X cc nL own) {x y : Int64} (d : decode cc pc = .ok (.lor, 1)) (w : cq_W X (pc + 1) lv (cqJ (x ||| y) :: st) h k n) : cq_W X pc lv (cqJ y :: cqJ x :: st) h k n := fun H locs ls hl hw hs => lv_lor F.1 F.2.1 d (w H locs ls hl hw hs)
theorem cq_ladd (F : cq_F X cc nL own) {x y : Int64} (d : decode cc pc = .ok (.ladd, 1)) (w : cq_W X (pc + 1) lv (cqJ (x + y) :: st) h k n) : cq_W X pc lv (cqJ y :: cqJ x :: st) h k n := fun H locs ls hl hw hs => lv_ladd F.1 F.2.1 d (w H locs ls hl hw hs)
theorem cq_lshl (F : cq_F X cc nL own) {x : Int64} {y : Int32} (d : decode cc pc = .ok (.lshl, 1)) (w : cq_W X (pc + 1) lv (cqJ (x <<< (y.toInt64 &&& 63)) :: st) h k n) : cq_W X pc lv (cqI y :: cqJ x :: st) h k n := fun H locs ls hl hw hs => lv_lshl F.1 F.2.1 d rfl (w H locs ls hl hw hs)
theorem cq_lcmp (F : cq_F X cc nL own) {x y : Int64} (d : decode cc pc = .ok (.lcmp, 1)) (w : cq_W X (pc + 1) lv (cqI (lg_cmp x y) :: st) h k n) : cq_W X pc lv (cqJ y :: cqJ x :: st) h k n := fun H locs ls hl hw hs => W.lcmp F.1 F.2.1 d (w H locs ls hl hw hs)
theorem cq_dcmp (F : cq_F X cc nL own) {x y : UInt64} {op : CmpOp} (d : decode cc pc = .ok (.dcmp op, 1)) (w : cq_W X (pc + 1) lv (cqI (Op.cmpValue (FP.dcmp x y) op) :: st) h k n) : cq_W X pc lv (cqD y :: cqD x :: st) h k n := fun H locs ls hl hw hs => lv_dcmp F.1 F.2.1 d (w H locs ls hl hw hs)
theorem cq_i2l (F : cq_F X cc nL own) {x : Int32} (d : decode cc pc = .ok (.i2l, 1)) (w : cq_W X (pc + 1) lv (cqJ x.toInt64 :: st) h k n) : cq_W X pc lv (cqI x :: st) h k n := fun H locs ls hl hw hs => lv_i2l F.1 F.2.1 d rfl (w H locs ls hl hw hs)
theorem cq_l2i (F : cq_F X cc nL own) {x : Int64} (d : decode cc pc = .ok (.l2i, 1)) (w : cq_W X (pc + 1) lv (cqI x.toInt32 :: st) h k n) : cq_W X pc lv (cqJ x :: st) h k n := fun H locs ls hl hw hs => lv_l2i F.1 F.2.1 d rfl (w H locs ls hl hw hs)
theorem cq_i2b (F : cq_F X cc nL own) {x : Int32} (d : decode cc pc = .ok (.i2b, 1)) (w : cq_W X (pc + 1) lv (cqI x.toInt8.toInt32 :: st) h k n) : cq_W X pc lv (cqI x :: st) h k n := fun H locs ls hl hw hs => lv_i2b F.1 F.2.1 d rfl (w H locs ls hl hw hs)
theorem cq_i2s (F : cq_F X cc nL own) {x : Int32} (d : decode cc pc = .ok (.i2s, 1)) (w : cq_W X (pc + 1) lv (cqI x.toInt16.toInt32 :: st) h k n) : cq_W X pc lv (cqI x :: st) h k n := fun H locs ls hl hw hs => lv_i2s F.1 F.2.1 d rfl (w H locs ls hl hw hs)
theorem cq_i2c (F : cq_F X cc nL own) {x : Int32} (d : decode cc pc = .ok (.i2c, 1)) (w : cq_W X (pc + 1) lv (cqI (x.toUInt32 % 65536).toInt32 :: st) h k n) : cq_W X pc lv (cqI x :: st) h k n := fun H locs ls hl hw hs => lv_i2c F.1 F.2.1 d rfl (w H locs ls hl hw hs)
theorem cq_i2d (F : cq_F X cc nL own) {x : Int32} (d : decode cc pc = .ok (.i2d, 1)) (w : cq_W X (pc + 1) lv (cqD (FP.i2d x) :: st) h k n) : cq_W X pc lv (cqI x :: st) h k n := fun H locs ls hl hw hs => lv_i2d F.1 F.2.1 d (w H locs ls hl hw hs)
theorem cq_l2d (F : cq_F X cc nL own) {x : Int64} (d : decode cc pc = .ok (.l2d, 1)) (w : cq_W X (pc + 1) lv (cqD (FP.l2d x) :: st) h k n) : cq_W X pc lv (cqJ x :: st) h k n := fun H locs ls hl hw hs => lv_l2d F.1 F.2.1 d (w H locs ls hl hw hs)
theorem cq_l2f (F : cq_F X cc nL own) {x : Int64} (d : decode cc pc = .ok (.l2f, 1)) (w : cq_W X (pc + 1) lv (cqF (FP.l2f x) :: st) h k n) : cq_W X pc lv (cqJ x :: st) h k n := fun H locs ls hl hw hs => lv_l2f F.1 F.2.1 d (w H locs ls hl hw hs)
theorem cq_fdiv (F : cq_F X cc nL own) {x y : UInt32} (d : decode cc pc = .ok (.fdiv, 1)) (hn : vf_n32 (FP.fdiv x y)) (w : cq_W X (pc + 1) lv (cqF (FP.fdiv x y) :: st) h k n) : cq_W X pc lv (cqF y :: cqF x :: st) h k n := fun H locs ls hl hw hs => lv_fdiv F.1 F.2.1 d hn (w H locs ls hl hw hs)
theorem cq_ddiv (F : cq_F X cc nL own) {x y : UInt64} (d : decode cc pc = .ok (.ddiv, 1)) (hn : vf_n64 (FP.ddiv x y)) (w : cq_W X (pc + 1) lv (cqD (FP.ddiv x y) :: st) h k n) : cq_W X pc lv (cqD y :: cqD x :: st) h k n := fun H locs ls hl hw hs => lv_ddiv F.1 F.2.1 d hn (w H locs ls hl hw hs)
theorem cq_f2d (F : cq_F X cc nL own) {x : UInt32} (d : decode cc pc = .ok (.f2d, 1)) (hn : vf_n64 (FP.f2d x)) (w : cq_W X (pc + 1) lv (cqD (FP.f2d x) :: st) h k n) : cq_W X pc lv (cqF x :: st) h k n := fun H locs ls hl hw hs => lv_f2d F.1 F.2.1 d hn (w H locs ls hl hw hs)
theorem cq_dup (F : cq_F X cc nL own) {v : cq_V} (d : decode cc pc = .ok (.dup, 1)) (hc : cq_c2 v = false) (w : cq_W X (pc + 1) lv (v :: v :: st) h k n) : cq_W X pc lv (v :: st) h k n := fun H locs ls hl hw hs => lv_dup F.1 F.2.1 d (by rw [cq_v_cat, hc]; rfl) (w H locs ls hl hw hs)
theorem cq_iload_n (F : cq_F X cc nL own) {j : Fin 4} {i : Nat} {x : Int32} (d : decode cc pc = .ok (.iload_n j, 1)) (hi : (j : Nat) = i) (hv : lv[i]? = some (some (cqI x))) (w : cq_W X (pc + 1) lv (cqI x :: st) h k n) : cq_W X pc lv st h k n := fun H locs ls hl hw hs => lv_iload_n F.1 F.2.1 d hi (cq_L_at hl hv) (w H locs ls hl hw hs)
theorem cq_iload (F : cq_F X cc nL own) {i : Nat} {x : Int32} (d : decode cc pc = .ok (.iload i, 2)) (hv : lv[i]? = some (some (cqI x))) (w : cq_W X (pc + 2) lv (cqI x :: st) h k n) : cq_W X pc lv st h k n := fun H locs ls hl hw hs => lv_iload F.1 F.2.1 d (cq_L_at hl hv) (w H locs ls hl hw hs)
theorem cq_istore_n (F : cq_F X cc nL own) {j : Fin 4} {i : Nat} {x : Int32} (d : decode cc pc = .ok (.istore_n j, 1)) (hi : (j : Nat) = i) (hn : i < lv.length) (w : cq_W X (pc + 1) (cq_s1 lv i (cqI x)) st h k n) : cq_W X pc lv (cqI x :: st) h k n := fun H locs ls hl hw hs => lv_istore_n F.1 F.2.1 d hi hl hn rfl (fun ls' hl' => w H locs ls' (cq_L_s1 (v := cqI x) hl') hw hs)
theorem cq_istore (F : cq_F X cc nL own) {i : Nat} {x : Int32} (d : decode cc pc = .ok (.istore i, 2)) (hn : i < lv.length) (w : cq_W X (pc + 2) (cq_s1 lv i (cqI x)) st h k n) : cq_W X pc lv (cqI x :: st) h k n := fun H locs ls hl hw hs => lv_istore F.1 F.2.1 d hl hn rfl (fun ls' hl' => w H locs ls' (cq_L_s1 (v := cqI x) hl') hw hs)
theorem cq_lload_n (F : cq_F X cc nL own) {j : Fin 4} {i : Nat} {x : Int64} (d : decode cc pc = .ok (.lload_n j, 1)) (hi : (j : Nat) = i) (hv : lv[i]? = some (some (cqJ x))) (w : cq_W X (pc + 1) lv (cqJ x :: st) h k n) : cq_W X pc lv st h k n := fun H locs ls hl hw hs => lv_lload_n F.1 F.2.1 d hi (cq_L_at hl hv) (w H locs ls hl hw hs)
theorem cq_lload (F : cq_F X cc nL own) {i : Nat} {x : Int64} (d : decode cc pc = .ok (.lload i, 2)) (hv : lv[i]? = some (some (cqJ x))) (w : cq_W X (pc + 2) lv (cqJ x :: st) h k n) : cq_W X pc lv st h k n := fun H locs ls hl hw hs => lv_lload F.1 F.2.1 d (cq_L_at hl hv) (w H locs ls hl hw hs)
theorem cq_lstore_n (F : cq_F X cc nL own) {j : Fin 4} {i : Nat} {x : Int64} (d : decode cc pc = .ok (.lstore_n j, 1)) (hi : (j : Nat) = i) (hn : i + 1 < lv.length) (w : cq_W X (pc + 1) (cq_s2 lv i (cqJ x)) st h k n) : cq_W X pc lv (cqJ x :: st) h k n := fun H locs ls hl hw hs => lv_lstore_n F.1 F.2.1 d hi hl hn rfl (fun ls' hl' => w H locs ls' (cq_L_s2 (v := cqJ x) hl') hw hs)
theorem cq_lstore (F : cq_F X cc nL own) {i : Nat} {x : Int64} (d : decode cc pc = .ok (.lstore i, 2)) (hn : i + 1 < lv.length) (w : cq_W X (pc + 2) (cq_s2 lv i (cqJ x)) st h k n) : cq_W X pc lv (cqJ x :: st) h k n := fun H locs ls hl hw hs => lv_lstore F.1 F.2.1 d hl hn rfl (fun ls' hl' => w H locs ls' (cq_L_s2 (v := cqJ x) hl') hw hs)
theorem cq_dload_n (F : cq_F X cc nL own) {j : Fin 4} {i : Nat} {x : UInt64} (d : decode cc pc = .ok (.dload_n j, 1)) (hi : (j : Nat) = i) (hv : lv[i]? = some (some (cqD x))) (w : cq_W X (pc + 1) lv (cqD x :: st) h k n) : cq_W X pc lv st h k n := fun H locs ls hl hw hs => lv_dload_n F.1 F.2.1 d hi (cq_L_at hl hv) (w H locs ls hl hw hs)
theorem cq_dload (F : cq_F X cc nL own) {i : Nat} {x : UInt64} (d : decode cc pc = .ok (.dload i, 2)) (hv : lv[i]? = some (some (cqD x))) (w : cq_W X (pc + 2) lv (cqD x :: st) h k n) : cq_W X pc lv st h k n := fun H locs ls hl hw hs => lv_dload F.1 F.2.1 d (cq_L_at hl hv) (w H locs ls hl hw hs)
theorem cq_dstore_n (F : cq_F X cc nL own) {j : Fin 4} {i : Nat} {x : UInt64} (d : decode cc pc = .ok (.dstore_n j, 1)) (hi : (j : Nat) = i) (hn : i + 1 < lv.length) (w : cq_W X (pc + 1) (cq_s2 lv i (cqD x)) st h k n) : cq_W X pc lv (cqD x :: st) h k n := fun H locs ls hl hw hs => lv_dstore_n F.1 F.2.1 d hi hl hn rfl (fun ls' hl' => w H locs ls' (cq_L_s2 (v := cqD x) hl') hw hs)
theorem cq_dstore (F : cq_F X cc nL own) {i : Nat} {x : UInt64} (d : decode cc pc = .ok (.dstore i, 2)) (hn : i + 1 < lv.length) (w : cq_W X (pc + 2) (cq_s2 lv i (cqD x)) st h k n) : cq_W X pc lv (cqD x :: st) h k n := fun H locs ls hl hw hs => lv_dstore F.1 F.2.1 d hl hn rfl (fun ls' hl' => w H locs ls' (cq_L_s2 (v := cqD x) hl') hw hs)
theorem cq_aload_n (F : cq_F X cc nL own) {j : Fin 4} {i : Nat} {r : Option Nat} (d : decode cc pc = .ok (.aload_n j, 1)) (hi : (j : Nat) = i) (hv : lv[i]? = some (some (cqR r))) (w : cq_W X (pc + 1) lv (cqR r :: st) h k n) : cq_W X pc lv st h k n := fun H locs ls hl hw hs => by
  cases r with
  | none => exact lv_aload_nN F.1 F.2.1 d hi (cq_L_at hl hv) (w H locs ls hl hw hs)
  | some a => exact lv_aload_n F.1 F.2.1 d hi (cq_L_at hl hv) (w H locs ls hl hw hs)
theorem cq_aload (F : cq_F X cc nL own) {i : Nat} {r : Option Nat} (d : decode cc pc = .ok (.aload i, 2)) (hv : lv[i]? = some (some (cqR r))) (w : cq_W X (pc + 2) lv (cqR r :: st) h k n) : cq_W X pc lv st h k n := fun H locs ls hl hw hs => by
  cases r with
  | none => exact lv_aloadN F.1 F.2.1 d (cq_L_at hl hv) (w H locs ls hl hw hs)
  | some a => exact lv_aload F.1 F.2.1 d (cq_L_at hl hv) (w H locs ls hl hw hs)
theorem cq_astore_n (F : cq_F X cc nL own) {j : Fin 4} {i : Nat} {r : Option Nat} (d : decode cc pc = .ok (.astore_n j, 1)) (hi : (j : Nat) = i) (hn : i < lv.length) (w : cq_W X (pc + 1) (cq_s1 lv i (cqR r)) st h k n) : cq_W X pc lv (cqR r :: st) h k n := fun H locs ls hl hw hs => by
  cases r with
  | none => exact lv_astore_nN F.1 F.2.1 d hi hl hn rfl (fun ls' hl' => w H locs ls' (cq_L_s1 (v := cqR none) hl') hw hs)
  | some a => exact lv_astore_n F.1 F.2.1 d hi hl hn rfl (fun ls' hl' => w H locs ls' (cq_L_s1 (v := cqR (some a)) hl') hw hs)
theorem cq_astore (F : cq_F X cc nL own) {i : Nat} {r : Option Nat} (d : decode cc pc = .ok (.astore i, 2)) (hn : i < lv.length) (w : cq_W X (pc + 2) (cq_s1 lv i (cqR r)) st h k n) : cq_W X pc lv (cqR r :: st) h k n := fun H locs ls hl hw hs => by
  cases r with
  | none => exact lv_astoreN F.1 F.2.1 d hl hn rfl (fun ls' hl' => w H locs ls' (cq_L_s1 (v := cqR none) hl') hw hs)
  | some a => exact lv_astore F.1 F.2.1 d hl hn rfl (fun ls' hl' => w H locs ls' (cq_L_s1 (v := cqR (some a)) hl') hw hs)
theorem cq_iinc (F : cq_F X cc nL own) {i : Nat} {z : Int} {x : Int32} (y : Int32) (d : decode cc pc = .ok (.iinc i z, 3)) (hv : lv[i]? = some (some (cqI x))) (hy : Int32.ofInt z = y) (w : cq_W X (pc + 3) (cq_s1 lv i (cqI (x + y))) st h k n) : cq_W X pc lv st h k n := fun H locs ls hl hw hs => by
  obtain ⟨q, hq⟩ := List.getElem?_of_mem (cq_al_mem.mpr ⟨_, hv, rfl⟩ : (i, Value.int x) ∈ cq_al lv)
  exact lv_iinc F.1 F.2.1 d hl hq (by rw [hy]) (List.getElem?_eq_some_iff.mp hv).1 rfl (fun ls' hl' => w H locs ls' (cq_L_s1 (v := cqI (x + y)) hl') hw hs)
theorem cq_goto (F : cq_F X cc nL own) {off : Int} (tgt : Nat) (d : decode cc pc = .ok (.goto off, 3)) (ht : (pc : Int) + off = (tgt : Int)) (w : cq_W X tgt lv st h k n) : cq_W X pc lv st h k n := fun H locs ls hl hw hs => lv_goto F.1 F.2.1 d ht (w H locs ls hl hw hs)
theorem cq_icmp_eq (F : cq_F X cc nL own) {x y : Int32} {off : Int} (tgt : Nat) (d : decode cc pc = .ok (.if_icmp .eq off, 3)) (ht : (pc : Int) + off = (tgt : Int)) (wt : x = y → cq_W X tgt lv st h k n) (wf : ¬ x = y → cq_W X (pc + 3) lv st h k n) : cq_W X pc lv (cqI y :: cqI x :: st) h k n := fun H locs ls hl hw hs => lv_icmp_eq F.1 F.2.1 d ht (fun c => wt c H locs ls hl hw hs) (fun c => wf c H locs ls hl hw hs)
theorem cq_if_eq (F : cq_F X cc nL own) {x : Int32} {off : Int} (tgt : Nat) (d : decode cc pc = .ok (.ifCond .eq off, 3)) (ht : (pc : Int) + off = (tgt : Int)) (wt : x = 0 → cq_W X tgt lv st h k n) (wf : ¬ x = 0 → cq_W X (pc + 3) lv st h k n) : cq_W X pc lv (cqI x :: st) h k n := fun H locs ls hl hw hs => lv_if_eq F.1 F.2.1 d ht (fun c => wt c H locs ls hl hw hs) (fun c => wf c H locs ls hl hw hs)
theorem cq_icmp_ne (F : cq_F X cc nL own) {x y : Int32} {off : Int} (tgt : Nat) (d : decode cc pc = .ok (.if_icmp .ne off, 3)) (ht : (pc : Int) + off = (tgt : Int)) (wt : ¬ x = y → cq_W X tgt lv st h k n) (wf : x = y → cq_W X (pc + 3) lv st h k n) : cq_W X pc lv (cqI y :: cqI x :: st) h k n := fun H locs ls hl hw hs => lv_icmp_ne F.1 F.2.1 d ht (fun c => wt c H locs ls hl hw hs) (fun c => wf c H locs ls hl hw hs)
theorem cq_if_ne (F : cq_F X cc nL own) {x : Int32} {off : Int} (tgt : Nat) (d : decode cc pc = .ok (.ifCond .ne off, 3)) (ht : (pc : Int) + off = (tgt : Int)) (wt : ¬ x = 0 → cq_W X tgt lv st h k n) (wf : x = 0 → cq_W X (pc + 3) lv st h k n) : cq_W X pc lv (cqI x :: st) h k n := fun H locs ls hl hw hs => lv_if_ne F.1 F.2.1 d ht (fun c => wt c H locs ls hl hw hs) (fun c => wf c H locs ls hl hw hs)
theorem cq_icmp_lt (F : cq_F X cc nL own) {x y : Int32} {off : Int} (tgt : Nat) (d : decode cc pc = .ok (.if_icmp .lt off, 3)) (ht : (pc : Int) + off = (tgt : Int)) (wt : x < y → cq_W X tgt lv st h k n) (wf : ¬ x < y → cq_W X (pc + 3) lv st h k n) : cq_W X pc lv (cqI y :: cqI x :: st) h k n := fun H locs ls hl hw hs => lv_icmp_lt F.1 F.2.1 d ht (fun c => wt c H locs ls hl hw hs) (fun c => wf c H locs ls hl hw hs)
theorem cq_if_lt (F : cq_F X cc nL own) {x : Int32} {off : Int} (tgt : Nat) (d : decode cc pc = .ok (.ifCond .lt off, 3)) (ht : (pc : Int) + off = (tgt : Int)) (wt : x < 0 → cq_W X tgt lv st h k n) (wf : ¬ x < 0 → cq_W X (pc + 3) lv st h k n) : cq_W X pc lv (cqI x :: st) h k n := fun H locs ls hl hw hs => lv_if_lt F.1 F.2.1 d ht (fun c => wt c H locs ls hl hw hs) (fun c => wf c H locs ls hl hw hs)
theorem cq_icmp_ge (F : cq_F X cc nL own) {x y : Int32} {off : Int} (tgt : Nat) (d : decode cc pc = .ok (.if_icmp .ge off, 3)) (ht : (pc : Int) + off = (tgt : Int)) (wt : y ≤ x → cq_W X tgt lv st h k n) (wf : ¬ y ≤ x → cq_W X (pc + 3) lv st h k n) : cq_W X pc lv (cqI y :: cqI x :: st) h k n := fun H locs ls hl hw hs => lv_icmp_ge F.1 F.2.1 d ht (fun c => wt c H locs ls hl hw hs) (fun c => wf c H locs ls hl hw hs)
theorem cq_if_ge (F : cq_F X cc nL own) {x : Int32} {off : Int} (tgt : Nat) (d : decode cc pc = .ok (.ifCond .ge off, 3)) (ht : (pc : Int) + off = (tgt : Int)) (wt : 0 ≤ x → cq_W X tgt lv st h k n) (wf : ¬ 0 ≤ x → cq_W X (pc + 3) lv st h k n) : cq_W X pc lv (cqI x :: st) h k n := fun H locs ls hl hw hs => lv_if_ge F.1 F.2.1 d ht (fun c => wt c H locs ls hl hw hs) (fun c => wf c H locs ls hl hw hs)
theorem cq_icmp_gt (F : cq_F X cc nL own) {x y : Int32} {off : Int} (tgt : Nat) (d : decode cc pc = .ok (.if_icmp .gt off, 3)) (ht : (pc : Int) + off = (tgt : Int)) (wt : y < x → cq_W X tgt lv st h k n) (wf : ¬ y < x → cq_W X (pc + 3) lv st h k n) : cq_W X pc lv (cqI y :: cqI x :: st) h k n := fun H locs ls hl hw hs => lv_icmp_gt F.1 F.2.1 d ht (fun c => wt c H locs ls hl hw hs) (fun c => wf c H locs ls hl hw hs)
theorem cq_if_gt (F : cq_F X cc nL own) {x : Int32} {off : Int} (tgt : Nat) (d : decode cc pc = .ok (.ifCond .gt off, 3)) (ht : (pc : Int) + off = (tgt : Int)) (wt : 0 < x → cq_W X tgt lv st h k n) (wf : ¬ 0 < x → cq_W X (pc + 3) lv st h k n) : cq_W X pc lv (cqI x :: st) h k n := fun H locs ls hl hw hs => lv_if_gt F.1 F.2.1 d ht (fun c => wt c H locs ls hl hw hs) (fun c => wf c H locs ls hl hw hs)
theorem cq_icmp_le (F : cq_F X cc nL own) {x y : Int32} {off : Int} (tgt : Nat) (d : decode cc pc = .ok (.if_icmp .le off, 3)) (ht : (pc : Int) + off = (tgt : Int)) (wt : x ≤ y → cq_W X tgt lv st h k n) (wf : ¬ x ≤ y → cq_W X (pc + 3) lv st h k n) : cq_W X pc lv (cqI y :: cqI x :: st) h k n := fun H locs ls hl hw hs => lv_icmp_le F.1 F.2.1 d ht (fun c => wt c H locs ls hl hw hs) (fun c => wf c H locs ls hl hw hs)
theorem cq_if_le (F : cq_F X cc nL own) {x : Int32} {off : Int} (tgt : Nat) (d : decode cc pc = .ok (.ifCond .le off, 3)) (ht : (pc : Int) + off = (tgt : Int)) (wt : x ≤ 0 → cq_W X tgt lv st h k n) (wf : ¬ x ≤ 0 → cq_W X (pc + 3) lv st h k n) : cq_W X pc lv (cqI x :: st) h k n := fun H locs ls hl hw hs => lv_if_le F.1 F.2.1 d ht (fun c => wt c H locs ls hl hw hs) (fun c => wf c H locs ls hl hw hs)
theorem cq_ifnull (F : cq_F X cc nL own) {r : Option Nat} {off : Int} (tgt : Nat) (d : decode cc pc = .ok (.ifnull off, 3)) (ht : (pc : Int) + off = (tgt : Int)) (wt : r = none → cq_W X tgt lv st h k n) (wf : ¬ r = none → cq_W X (pc + 3) lv st h k n) : cq_W X pc lv (cqR r :: st) h k n := fun H locs ls hl hw hs => by
  cases r with
  | none => exact lv_ifnullN F.1 F.2.1 d ht (wt rfl H locs ls hl hw hs)
  | some a => exact lv_ifnull F.1 F.2.1 d (wf (fun e => by cases e) H locs ls hl hw hs)
theorem cq_ifnonnull (F : cq_F X cc nL own) {r : Option Nat} {off : Int} (tgt : Nat) (d : decode cc pc = .ok (.ifnonnull off, 3)) (ht : (pc : Int) + off = (tgt : Int)) (wt : ¬ r = none → cq_W X tgt lv st h k n) (wf : r = none → cq_W X (pc + 3) lv st h k n) : cq_W X pc lv (cqR r :: st) h k n := fun H locs ls hl hw hs => by
  cases r with
  | none => exact lv_ifnonnullN F.1 F.2.1 d (wf rfl H locs ls hl hw hs)
  | some a => exact lv_ifnonnull F.1 F.2.1 d ht (wt (fun e => by cases e) H locs ls hl hw hs)
theorem cq_acmp_ne (F : cq_F X cc nL own) {rx ry : Option Nat} {off : Int} (tgt : Nat) (d : decode cc pc = .ok (.if_acmp .ne off, 3)) (ht : (pc : Int) + off = (tgt : Int)) (wt : ¬ rx = ry → cq_W X tgt lv st h k n) (wf : rx = ry → cq_W X (pc + 3) lv st h k n) : cq_W X pc lv (cqR ry :: cqR rx :: st) h k n := fun H locs ls hl hw hs => lv_acmp_ne F.1 F.2.1 d ht (fun c => wt c H locs ls hl hw hs) (fun c => wf c H locs ls hl hw hs)
theorem cq_tabIn (F : cq_F X cc nL own) {dflt lo hi : Int} {offs : Array Int} {len : Nat} {x : Int32} {off : Int} (tgt : Nat) (d : decode cc pc = .ok (.tableswitch dflt lo hi offs, len)) (h1 : ¬ x.toInt < lo) (h2 : ¬ hi < x.toInt) (ho : offs[(x.toInt - lo).toNat]? = some off) (ht : (pc : Int) + off = (tgt : Int)) (w : cq_W X tgt lv st h k n) : cq_W X pc lv (cqI x :: st) h k n := fun H locs ls hl hw hs => lv_tableIn F.1 F.2.1 d h1 h2 ho ht (w H locs ls hl hw hs)
theorem cq_tabOut (F : cq_F X cc nL own) {dflt lo hi : Int} {offs : Array Int} {len : Nat} {x : Int32} (tgt : Nat) (d : decode cc pc = .ok (.tableswitch dflt lo hi offs, len)) (h1 : x.toInt < lo ∨ hi < x.toInt) (ht : (pc : Int) + dflt = (tgt : Int)) (w : cq_W X tgt lv st h k n) : cq_W X pc lv (cqI x :: st) h k n := fun H locs ls hl hw hs => lv_tableOut F.1 F.2.1 d h1 ht (w H locs ls hl hw hs)
/-! the heap -/
/-- a field reference of the class 'own' reaches field k of the class number ci -/
def cq_fl (own : String) (idx ci k : Nat) (C : String) (T : u_T) (N : Nat) (ref : String) : Prop := cq_cl[ci]? = some (C, T, N) ∧ (∀ w ∈ u_ws C T N, w ∈ lw_tbl) ∧ k < N ∧ Cond.fieldLink own idx ref (T k).2.1 (T k).2.2.1 ∈ lw_tbl ∧ (ref = (T k).1 ∨ Cond.sameField ref (T k).1 (T k).2.1 (T k).2.2.1 ∈ lw_tbl)
theorem cq_get (F : cq_F X cc nL own) {idx ci j N : Nat} {C ref : String} {T : u_T} {a : Nat} {fs : List cq_V} {v : cq_V} (L : cq_fl own idx ci j C T N ref) (d : decode cc pc = .ok (.getfield idx, 3)) (ha : h a = some (.inl (ci, fs))) (hv : fs[j]? = some v) (w : cq_W X (pc + 3) lv (v :: st) h k n) : cq_W X pc lv (cqR (some a) :: st) h k n := fun H locs ls hl hw hs => by
  obtain ⟨ws, q, hP, hq⟩ := hw.get ha
  have hts := F.2.2.2.2.1.2.1 X.args
  exact va_get (D := X.G.1) (v := cq_v v) F.1 F.2.1 hts L.2.1 F.2.2.2.1 F.2.2.2.2.1.1 hP q hq L.1 j L.2.2.1 (hts _ L.2.2.2.1) (fun x hx => by
    rcases L.2.2.2.2 with e | e
    · rw [e]; exact hx
    · exact u_same (hts _ e) x hx) (by rw [List.getElem?_map, hv]; rfl) d (w H locs ls hl hw hs)
/-- the same, of a field that may be written: its type -/
def cq_fp (own : String) (idx ci k : Nat) (C : String) (T : u_T) (N : Nat) (ref : String) (fin : Bool) (ty : FieldType) : Prop := cq_fl own idx ci k C T N ref ∧ (∀ a, a < N → ∀ b, b < N → a ≠ b → (T a).2.1 ≠ (T b).2.1) ∧ (∃ ty0 : Nat → FieldType, ∀ j, j < N → parseFieldDescriptor (T j).2.2.1 = some (ty0 j)) ∧ (T k).2.2.2 = fin ∧ parseFieldDescriptor (T k).2.2.1 = some ty
theorem cq_put (F : cq_F X cc nL own) {idx ci j N : Nat} {C ref : String} {T : u_T} {ty : FieldType} {a : Nat} {fs : List cq_V} {v : cq_V} (L : cq_fp own idx ci j C T N ref false ty) (d : decode cc pc = .ok (.putfield idx, 3)) (ha : h a = some (.inl (ci, fs))) (hn : narrow ty (cq_v v) = cq_v v) (hf : fits ty (cq_v v) = true) (hj : j < fs.length) (w : cq_W X (pc + 3) lv st (cq_up h a (.inl (ci, fs.set j v))) k n) : cq_W X pc lv (v :: cqR (some a) :: st) h k n := fun H locs ls hl hw hs => by
  obtain ⟨ws, q, hP, hD, hq, hup⟩ := hw.put (y := .inl (ci, fs.set j v)) ha
  have hts := F.2.2.2.2.1.2.1 X.args
  obtain ⟨L, hnm, ⟨ty0, hty⟩, hfin, hd⟩ := L
  exact va_put (D := X.G.1) (v := cq_v v) F.1 F.2.1 hts L.2.1 ty0 hty hnm F.2.2.2.1 F.2.2.2.2.1.1 hP hD hs q hq L.1 j L.2.2.1 (hts _ L.2.2.2.1) (fun x hx => by
    rcases L.2.2.2.2 with e | e
    · rw [e]; exact hx
    · exact u_same (hts _ e) x hx) hfin hd hn hf (by rw [List.length_map]; exact hj) d (fun H1 locs1 hP1 hD1 hS1 => w H1 locs1 ls hl (hup H1 (by rw [show cq_e X.G.2 (.inl (ci, fs.set j v)) = .inr (ci, (fs.map cq_v).set j (cq_v v)) by simp [cq_e, List.map_set]]; exact hP1) (by rw [show cq_e X.G.2 (.inl (ci, fs.set j v)) = .inr (ci, (fs.map cq_v).set j (cq_v v)) by simp [cq_e, List.map_set]]; exact hD1)) hS1)
/-- a final field, in its own class's constructor -/
theorem cq_putF (F : cq_F X cc nL own) (hin : X.meth.name = "<init>") {idx ci j N : Nat} {C ref : String} {T : u_T} {ty : FieldType} {a : Nat} {fs : List cq_V} {v : cq_V} (L : cq_fp own idx ci j C T N ref true ty) (hown : (T j).1 = own) (d : decode cc pc = .ok (.putfield idx, 3)) (ha : h a = some (.inl (ci, fs))) (hn : narrow ty (cq_v v) = cq_v v) (hf : fits ty (cq_v v) = true) (hj : j < fs.length) (w : cq_W X (pc + 3) lv st (cq_up h a (.inl (ci, fs.set j v))) k n) : cq_W X pc lv (v :: cqR (some a) :: st) h k n := fun H locs ls hl hw hs => by
  obtain ⟨ws, q, hP, hD, hq, hup⟩ := hw.put (y := .inl (ci, fs.set j v)) ha
  have hts := F.2.2.2.2.1.2.1 X.args
  obtain ⟨L, hnm, ⟨ty0, hty⟩, hfin, hd⟩ := L
  exact va_putF (D := X.G.1) (v := cq_v v) F.1 F.2.1 hts L.2.1 ty0 hty hnm F.2.2.2.1 F.2.2.2.2.1.1 hP hD hs q hq L.1 j L.2.2.1 (hts _ L.2.2.2.1) (fun x hx => by
    rcases L.2.2.2.2 with e | e
    · rw [e]; exact hx
    · exact u_same (hts _ e) x hx) hfin hin hown hd hn hf (by rw [List.length_map]; exact hj) d (fun H1 locs1 hP1 hD1 hS1 => w H1 locs1 ls hl (hup H1 (by rw [show cq_e X.G.2 (.inl (ci, fs.set j v)) = .inr (ci, (fs.map cq_v).set j (cq_v v)) by simp [cq_e, List.map_set]]; exact hP1) (by rw [show cq_e X.G.2 (.inl (ci, fs.set j v)) = .inr (ci, (fs.map cq_v).set j (cq_v v)) by simp [cq_e, List.map_set]]; exact hD1)) hS1)
theorem cq_iaload (F : cq_F X cc nL own) {a N : Nat} {f : Nat → Int32} {i : Int32} (d : decode cc pc = .ok (.iaload, 1)) (ha : h a = some (.inr (0, N, .inl f))) (hi : vp_in i N) (w : cq_W X (pc + 1) lv (cqI (f i.toNatClampNeg) :: st) h k n) : cq_W X pc lv (cqI i :: cqR (some a) :: st) h k n := fun H locs ls hl hw hs => by
  obtain ⟨ws, q, hP, hq⟩ := hw.get ha
  exact va_iald F.1 F.2.1 F.2.2.2.2.1.1 hP q 0 hq rfl hi d (w H locs ls hl hw hs)
theorem cq_laload (F : cq_F X cc nL own) {a N : Nat} {f : Nat → Int64} {i : Int32} (d : decode cc pc = .ok (.laload, 1)) (ha : h a = some (.inr (1, N, .inr (.inl f)))) (hi : vp_in i N) (w : cq_W X (pc + 1) lv (cqJ (f i.toNatClampNeg) :: st) h k n) : cq_W X pc lv (cqI i :: cqR (some a) :: st) h k n := fun H locs ls hl hw hs => by
  obtain ⟨ws, q, hP, hq⟩ := hw.get ha
  exact va_lald F.1 F.2.1 F.2.2.2.2.1.1 hP q 1 hq rfl hi d (w H locs ls hl hw hs)
theorem cq_daload (F : cq_F X cc nL own) {a N : Nat} {f : Nat → UInt64} {i : Int32} (d : decode cc pc = .ok (.daload, 1)) (ha : h a = some (.inr (2, N, .inr (.inr (.inr (.inl f)))))) (hi : vp_in i N) (w : cq_W X (pc + 1) lv (cqD (f i.toNatClampNeg) :: st) h k n) : cq_W X pc lv (cqI i :: cqR (some a) :: st) h k n := fun H locs ls hl hw hs => by
  obtain ⟨ws, q, hP, hq⟩ := hw.get ha
  exact va_dald F.1 F.2.1 F.2.2.2.2.1.1 hP q 2 hq rfl hi d (w H locs ls hl hw hs)
theorem cq_aaload3 (F : cq_F X cc nL own) {a N : Nat} {f : Nat → Option Nat} {i : Int32} (d : decode cc pc = .ok (.aaload, 1)) (ha : h a = some (.inr (3, N, .inr (.inr (.inr (.inr f)))))) (hi : vp_in i N) (w : cq_W X (pc + 1) lv (cqR (f i.toNatClampNeg) :: st) h k n) : cq_W X pc lv (cqI i :: cqR (some a) :: st) h k n := fun H locs ls hl hw hs => by
  obtain ⟨ws, q, hP, hq⟩ := hw.get ha
  exact va_aldq F.1 F.2.1 F.2.2.2.2.1.1 hP q 3 hq rfl hi d (w H locs ls hl hw hs)
theorem cq_aaload4 (F : cq_F X cc nL own) {a N : Nat} {f : Nat → Option Nat} {i : Int32} (d : decode cc pc = .ok (.aaload, 1)) (ha : h a = some (.inr (4, N, .inr (.inr (.inr (.inr f)))))) (hi : vp_in i N) (w : cq_W X (pc + 1) lv (cqR (f i.toNatClampNeg) :: st) h k n) : cq_W X pc lv (cqI i :: cqR (some a) :: st) h k n := fun H locs ls hl hw hs => by
  obtain ⟨ws, q, hP, hq⟩ := hw.get ha
  exact va_aldq F.1 F.2.1 F.2.2.2.2.1.1 hP q 4 hq rfl hi d (w H locs ls hl hw hs)
theorem cq_iastore (F : cq_F X cc nL own) {a N : Nat} {f : Nat → Int32} {i : Int32} {x : Int32} (d : decode cc pc = .ok (.iastore, 1)) (ha : h a = some (.inr (0, N, .inl (f)))) (hi : vp_in i N) (w : cq_W X (pc + 1) lv st (cq_up h a (.inr (0, N, .inl (upd f i.toNatClampNeg x)))) k n) : cq_W X pc lv (cqI x :: cqI i :: cqR (some a) :: st) h k n := fun H locs ls hl hw hs => by
  obtain ⟨ws, q, hP, hD, hq, hup⟩ := hw.put (y := .inr (0, N, .inl (upd f i.toNatClampNeg x))) ha
  exact va_iast F.1 F.2.1 F.2.2.2.2.1.1 hP hD hs q 0 hq rfl hi d (fun H1 locs1 hP1 hD1 hS1 => w H1 locs1 ls hl (hup H1 hP1 hD1) hS1)
theorem cq_lastore (F : cq_F X cc nL own) {a N : Nat} {f : Nat → Int64} {i : Int32} {x : Int64} (d : decode cc pc = .ok (.lastore, 1)) (ha : h a = some (.inr (1, N, .inr (.inl (f))))) (hi : vp_in i N) (w : cq_W X (pc + 1) lv st (cq_up h a (.inr (1, N, .inr (.inl (vp_updL f i.toNatClampNeg x))))) k n) : cq_W X pc lv (cqJ x :: cqI i :: cqR (some a) :: st) h k n := fun H locs ls hl hw hs => by
  obtain ⟨ws, q, hP, hD, hq, hup⟩ := hw.put (y := .inr (1, N, .inr (.inl (vp_updL f i.toNatClampNeg x)))) ha
  exact va_last F.1 F.2.1 F.2.2.2.2.1.1 hP hD hs q 1 hq rfl hi d (fun H1 locs1 hP1 hD1 hS1 => w H1 locs1 ls hl (hup H1 hP1 hD1) hS1)
theorem cq_dastore (F : cq_F X cc nL own) {a N : Nat} {f : Nat → UInt64} {i : Int32} {x : UInt64} (d : decode cc pc = .ok (.dastore, 1)) (ha : h a = some (.inr (2, N, .inr (.inr (.inr (.inl (f))))))) (hi : vp_in i N) (w : cq_W X (pc + 1) lv st (cq_up h a (.inr (2, N, .inr (.inr (.inr (.inl (vf_upd f i.toNatClampNeg x))))))) k n) : cq_W X pc lv (cqD x :: cqI i :: cqR (some a) :: st) h k n := fun H locs ls hl hw hs => by
  obtain ⟨ws, q, hP, hD, hq, hup⟩ := hw.put (y := .inr (2, N, .inr (.inr (.inr (.inl (vf_upd f i.toNatClampNeg x)))))) ha
  exact va_dast F.1 F.2.1 F.2.2.2.2.1.1 hP hD hs q 2 hq rfl hi d (fun H1 locs1 hP1 hD1 hS1 => w H1 locs1 ls hl (hup H1 hP1 hD1) hS1)
theorem cq_alen (F : cq_F X cc nL own) {a t0 : Nat} {x : vp_A} {ty : FieldType} (d : decode cc pc = .ok (.arraylength, 1)) (ha : h a = some (.inr (t0, x))) (ht : (cq_tys X.G.2)[t0]? = some (X.G.2 t0, ty)) (w : cq_W X (pc + 1) lv (cqI (Int32.ofNat x.1) :: st) h k n) : cq_W X pc lv (cqR (some a) :: st) h k n := fun H locs ls hl hw hs => by
  obtain ⟨ws, q, hP, hq⟩ := hw.get ha
  exact va_alen F.1 F.2.1 F.2.2.2.2.1.1 hP q t0 hq ht rfl d (w H locs ls hl hw hs)
/-- a class's constants -/
theorem cq_ldc2 (F : cq_F X cc nL own) {idx : Nat} (v : Int64) (d : decode cc pc = .ok (.ldc2_w idx, 3)) (hc : Cond.constantLong own idx v ∈ lw_tbl) (w : cq_W X (pc + 3) lv (cqJ v :: st) h k n) : cq_W X pc lv st h k n := fun H locs ls hl hw hs => lv_ldc2 F.1 F.2.1 F.2.2.2.1 (F.2.2.2.2.1.2.1 X.args _ hc) d (w H locs ls hl hw hs)
theorem cq_ldc2d (F : cq_F X cc nL own) {idx : Nat} (v : UInt64) (d : decode cc pc = .ok (.ldc2_w idx, 3)) (hc : Cond.constantDouble own idx v ∈ lw_tbl) (w : cq_W X (pc + 3) lv (cqD v :: st) h k n) : cq_W X pc lv st h k n := fun H locs ls hl hw hs => lv_ldc2d F.1 F.2.1 F.2.2.2.1 (F.2.2.2.2.1.2.1 X.args _ hc) d (w H locs ls hl hw hs)
theorem cq_ldcf (F : cq_F X cc nL own) {idx : Nat} (v : UInt32) (d : decode cc pc = .ok (.ldc idx, 2)) (hc : Cond.constantFloat own idx v ∈ lw_tbl) (w : cq_W X (pc + 2) lv (cqF v :: st) h k n) : cq_W X pc lv st h k n := fun H locs ls hl hw hs => lv_ldcf F.1 F.2.1 F.2.2.2.1 (F.2.2.2.2.1.2.1 X.args _ hc) d (w H locs ls hl hw hs)
end cqRows

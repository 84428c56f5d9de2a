/-! Worlds by maps (my own layer over the kit's rows): kinds, int fields, reference fields, arrays of ints, of references, of longs. A field has one number in all classes that have it (fg), so two fields never lie over each other. -/
abbrev tV : Type := Int32 ⊕ (Option Nat ⊕ Int64)
abbrev vI (x : Int32) : tV := .inl x
abbrev vR (x : Option Nat) : tV := .inr (.inl x)
abbrev vJ (x : Int64) : tV := .inr (.inr x)
def tv (x : tV) : Value := match x with
  | .inl i => .int i
  | .inr (.inl r) => va_rf r
  | .inr (.inr j) => .long j
def tc (x : tV) : Nat := match x with
  | .inl _ => 1
  | .inr (.inl _) => 1
  | .inr (.inr _) => 2
theorem tv_cat (x : tV) : (tv x).category = tc x := by
  rcases x with i | r | j
  · rfl
  · cases r <;> rfl
  · rfl
abbrev tL : Type := List (Nat × tV)
def lvm (lv : tL) : List (Nat × Value) := lv.map (fun q => (q.1, tv q.2))
theorem lvm_get {lv : tL} {k i : Nat} {x : tV} (h : lv[k]? = some (i, x)) : (lvm lv)[k]? = some (i, tv x) := by
  unfold lvm
  rw [List.getElem?_map, h]
  rfl
def tsm (st : List tV) : Nat := (st.map tc).sum
theorem tv_sum (st : List tV) : ((st.map tv).map fun v => v.category).sum = tsm st := by
  unfold tsm
  rw [List.map_map]
  congr 1
  apply List.map_congr_left
  intro x _
  exact tv_cat x
def tset (lv : tL) (i : Nat) (x : tV) : tL := (i, x) :: lv.filter (fun q => !(q.1 == i) && !(q.1 + 1 == i && tc q.2 == 2))
def tset2 (lv : tL) (i : Nat) (x : tV) : tL := (i, x) :: lv.filter (fun q => !(q.1 == i) && (!(q.1 == i + 1) && !(q.1 + 1 == i && tc q.2 == 2)))
theorem lvm_set (lv : tL) (i : Nat) (x : tV) : (i, tv x) :: (lvm lv).filter (fun q => !(q.1 == i) && !(q.1 + 1 == i && q.2.category == 2)) = lvm (tset lv i x) := by
  unfold tset lvm
  rw [List.map_cons, List.filter_map]
  congr 2
  apply List.filter_congr
  intro q _
  show (!(q.1 == i) && !(q.1 + 1 == i && (tv q.2).category == 2)) = _
  rw [tv_cat]
theorem lvm_set2 (lv : tL) (i : Nat) (x : tV) : (i, tv x) :: (lvm lv).filter (fun q => !(q.1 == i) && (!(q.1 == i + 1) && !(q.1 + 1 == i && q.2.category == 2))) = lvm (tset2 lv i x) := by
  unfold tset2 lvm
  rw [List.map_cons, List.filter_map]
  congr 2
  apply List.filter_congr
  intro q _
  show (!(q.1 == i) && (!(q.1 == i + 1) && !(q.1 + 1 == i && (tv q.2).category == 2))) = _
  rw [tv_cat]
def targs : Nat → List tV → tL
  | _, [] => []
  | i, v :: vs => (i, v) :: targs (i + tc v) vs
theorem targs_lv (vs : List tV) (i : Nat) : lv_args i (vs.map tv) = lvm (targs i vs) := by
  induction vs generalizing i with
  | nil => rfl
  | cons v vs ih =>
    show (i, tv v) :: lv_args (if (tv v).category = 2 then i + 2 else i + 1) (vs.map tv) = (i, tv v) :: lvm (targs (i + tc v) vs)
    have e : (if (tv v).category = 2 then i + 2 else i + 1) = i + tc v := by
      rw [tv_cat]
      rcases v with x | r | j <;> rfl
    rw [e, ih]
theorem tv_sl (vs : List tV) : (lg_sl (vs.map tv)).length = tsm vs := by
  induction vs with
  | nil => rfl
  | cons v vs ih =>
    unfold lg_sl at ih ⊢
    rw [List.map_cons, List.flatMap_cons, List.length_append, ih]
    unfold tsm
    rw [List.map_cons, List.sum_cons]
    congr 1
    rw [tv_cat]
    rcases v with x | r | j <;> rfl
/-! the world -/
abbrev mKi : Type := Nat ⊕ (Nat × Nat)
abbrev mW : Type := (Nat → Option mKi) × (Nat → Nat → Int32) × (Nat → Nat → Option Nat) × (Nat → Nat → Int32) × (Nat → Nat → Option Nat) × (Nat → Nat → Int64)
def gK (w : mW) : Nat → Option mKi := w.1
def gI (w : mW) : Nat → Nat → Int32 := w.2.1
def gR (w : mW) : Nat → Nat → Option Nat := w.2.2.1
def aI (w : mW) : Nat → Nat → Int32 := w.2.2.2.1
def aR (w : mW) : Nat → Nat → Option Nat := w.2.2.2.2.1
def aJ (w : mW) : Nat → Nat → Int64 := w.2.2.2.2.2
def up2 {α : Type} (f : Nat → Nat → α) (k a : Nat) (x : α) : Nat → Nat → α := fun k' a' => if k' = k ∧ a' = a then x else f k' a'
def sI (w : mW) (k a : Nat) (x : Int32) : mW := (w.1, up2 w.2.1 k a x, w.2.2)
def sR (w : mW) (k a : Nat) (r : Option Nat) : mW := (w.1, w.2.1, up2 w.2.2.1 k a r, w.2.2.2)
def xI (w : mW) (a i : Nat) (x : Int32) : mW := (w.1, w.2.1, w.2.2.1, up2 w.2.2.2.1 a i x, w.2.2.2.2)
def xR (w : mW) (a i : Nat) (r : Option Nat) : mW := (w.1, w.2.1, w.2.2.1, w.2.2.2.1, up2 w.2.2.2.2.1 a i r, w.2.2.2.2.2)
def xJ (w : mW) (a i : Nat) (x : Int64) : mW := (w.1, w.2.1, w.2.2.1, w.2.2.2.1, w.2.2.2.2.1, up2 w.2.2.2.2.2 a i x)
def nO (w : mW) (q c : Nat) : mW := (fun a => if a = q then some (.inl c) else w.1 a, fun k a => if a = q then 0 else w.2.1 k a, fun k a => if a = q then none else w.2.2.1 k a, w.2.2.2)
def nA (w : mW) (q t n : Nat) : mW := (fun a => if a = q then some (.inr (t, n)) else w.1 a, w.2.1, w.2.2.1, fun a i => if a = q then 0 else w.2.2.2.1 a i, fun a i => if a = q then none else w.2.2.2.2.1 a i, fun a i => if a = q then 0 else w.2.2.2.2.2 a i)
theorem gK_sI (w : mW) (k₀ a₀ : Nat) (x : Int32) : gK (sI w k₀ a₀ x) = gK w := rfl
theorem gI_sI (w : mW) (k₀ a₀ : Nat) (x : Int32) (k a : Nat) : gI (sI w k₀ a₀ x) k a = if k = k₀ ∧ a = a₀ then x else gI w k a := rfl
theorem gI_sI_eq (w : mW) (k₀ a₀ : Nat) (x : Int32) : gI (sI w k₀ a₀ x) k₀ a₀ = x := if_pos ⟨rfl, rfl⟩
theorem gI_sI_ne (w : mW) (k₀ a₀ : Nat) (x : Int32) {k a : Nat} (h : k ≠ k₀) : gI (sI w k₀ a₀ x) k a = gI w k a := if_neg (fun q => h q.1)
theorem gI_sI_na (w : mW) (k₀ a₀ : Nat) (x : Int32) {k a : Nat} (h : a ≠ a₀) : gI (sI w k₀ a₀ x) k a = gI w k a := if_neg (fun q => h q.2)
theorem gI_sI_nk (w : mW) (k₀ a₀ : Nat) (x : Int32) {k : Nat} (h : k ≠ k₀) : gI (sI w k₀ a₀ x) k = gI w k := funext fun z => if_neg (fun q => h q.1)
theorem gR_sI (w : mW) (k₀ a₀ : Nat) (x : Int32) : gR (sI w k₀ a₀ x) = gR w := rfl
theorem aI_sI (w : mW) (k₀ a₀ : Nat) (x : Int32) : aI (sI w k₀ a₀ x) = aI w := rfl
theorem aR_sI (w : mW) (k₀ a₀ : Nat) (x : Int32) : aR (sI w k₀ a₀ x) = aR w := rfl
theorem aJ_sI (w : mW) (k₀ a₀ : Nat) (x : Int32) : aJ (sI w k₀ a₀ x) = aJ w := rfl
theorem gK_sR (w : mW) (k₀ a₀ : Nat) (x : Option Nat) : gK (sR w k₀ a₀ x) = gK w := rfl
theorem gI_sR (w : mW) (k₀ a₀ : Nat) (x : Option Nat) : gI (sR w k₀ a₀ x) = gI w := rfl
theorem gR_sR (w : mW) (k₀ a₀ : Nat) (x : Option Nat) (k a : Nat) : gR (sR w k₀ a₀ x) k a = if k = k₀ ∧ a = a₀ then x else gR w k a := rfl
theorem gR_sR_eq (w : mW) (k₀ a₀ : Nat) (x : Option Nat) : gR (sR w k₀ a₀ x) k₀ a₀ = x := if_pos ⟨rfl, rfl⟩
theorem gR_sR_ne (w : mW) (k₀ a₀ : Nat) (x : Option Nat) {k a : Nat} (h : k ≠ k₀) : gR (sR w k₀ a₀ x) k a = gR w k a := if_neg (fun q => h q.1)
theorem gR_sR_na (w : mW) (k₀ a₀ : Nat) (x : Option Nat) {k a : Nat} (h : a ≠ a₀) : gR (sR w k₀ a₀ x) k a = gR w k a := if_neg (fun q => h q.2)
theorem gR_sR_nk (w : mW) (k₀ a₀ : Nat) (x : Option Nat) {k : Nat} (h : k ≠ k₀) : gR (sR w k₀ a₀ x) k = gR w k := funext fun z => if_neg (fun q => h q.1)
theorem aI_sR (w : mW) (k₀ a₀ : Nat) (x : Option Nat) : aI (sR w k₀ a₀ x) = aI w := rfl
theorem aR_sR (w : mW) (k₀ a₀ : Nat) (x : Option Nat) : aR (sR w k₀ a₀ x) = aR w := rfl
theorem aJ_sR (w : mW) (k₀ a₀ : Nat) (x : Option Nat) : aJ (sR w k₀ a₀ x) = aJ w := rfl
theorem gK_xI (w : mW) (k₀ a₀ : Nat) (x : Int32) : gK (xI w k₀ a₀ x) = gK w := rfl
theorem gI_xI (w : mW) (k₀ a₀ : Nat) (x : Int32) : gI (xI w k₀ a₀ x) = gI w := rfl
theorem gR_xI (w : mW) (k₀ a₀ : Nat) (x : Int32) : gR (xI w k₀ a₀ x) = gR w := rfl
theorem aI_xI (w : mW) (k₀ a₀ : Nat) (x : Int32) (k a : Nat) : aI (xI w k₀ a₀ x) k a = if k = k₀ ∧ a = a₀ then x else aI w k a := rfl
theorem aI_xI_eq (w : mW) (k₀ a₀ : Nat) (x : Int32) : aI (xI w k₀ a₀ x) k₀ a₀ = x := if_pos ⟨rfl, rfl⟩
theorem aI_xI_ne (w : mW) (k₀ a₀ : Nat) (x : Int32) {k a : Nat} (h : k ≠ k₀) : aI (xI w k₀ a₀ x) k a = aI w k a := if_neg (fun q => h q.1)
theorem aI_xI_na (w : mW) (k₀ a₀ : Nat) (x : Int32) {k a : Nat} (h : a ≠ a₀) : aI (xI w k₀ a₀ x) k a = aI w k a := if_neg (fun q => h q.2)
theorem aI_xI_nk (w : mW) (k₀ a₀ : Nat) (x : Int32) {k : Nat} (h : k ≠ k₀) : aI (xI w k₀ a₀ x) k = aI w k := funext fun z => if_neg (fun q => h q.1)
theorem aR_xI (w : mW) (k₀ a₀ : Nat) (x : Int32) : aR (xI w k₀ a₀ x) = aR w := rfl
theorem aJ_xI (w : mW) (k₀ a₀ : Nat) (x : Int32) : aJ (xI w k₀ a₀ x) = aJ w := rfl
theorem gK_xR (w : mW) (k₀ a₀ : Nat) (x : Option Nat) : gK (xR w k₀ a₀ x) = gK w := rfl
theorem gI_xR (w : mW) (k₀ a₀ : Nat) (x : Option Nat) : gI (xR w k₀ a₀ x) = gI w := rfl
theorem gR_xR (w : mW) (k₀ a₀ : Nat) (x : Option Nat) : gR (xR w k₀ a₀ x) = gR w := rfl
theorem aI_xR (w : mW) (k₀ a₀ : Nat) (x : Option Nat) : aI (xR w k₀ a₀ x) = aI w := rfl
theorem aR_xR (w : mW) (k₀ a₀ : Nat) (x : Option Nat) (k a : Nat) : aR (xR w k₀ a₀ x) k a = if k = k₀ ∧ a = a₀ then x else aR w k a := rfl
theorem aR_xR_eq (w : mW) (k₀ a₀ : Nat) (x : Option Nat) : aR (xR w k₀ a₀ x) k₀ a₀ = x := if_pos ⟨rfl, rfl⟩
theorem aR_xR_ne (w : mW) (k₀ a₀ : Nat) (x : Option Nat) {k a : Nat} (h : k ≠ k₀) : aR (xR w k₀ a₀ x) k a = aR w k a := if_neg (fun q => h q.1)
theorem aR_xR_na (w : mW) (k₀ a₀ : Nat) (x : Option Nat) {k a : Nat} (h : a ≠ a₀) : aR (xR w k₀ a₀ x) k a = aR w k a := if_neg (fun q => h q.2)
theorem aR_xR_nk (w : mW) (k₀ a₀ : Nat) (x : Option Nat) {k : Nat} (h : k ≠ k₀) : aR (xR w k₀ a₀ x) k = aR w k := funext fun z => if_neg (fun q => h q.1)
theorem aJ_xR (w : mW) (k₀ a₀ : Nat) (x : Option Nat) : aJ (xR w k₀ a₀ x) = aJ w := rfl
theorem gK_xJ (w : mW) (k₀ a₀ : Nat) (x : Int64) : gK (xJ w k₀ a₀ x) = gK w := rfl
theorem gI_xJ (w : mW) (k₀ a₀ : Nat) (x : Int64) : gI (xJ w k₀ a₀ x) = gI w := rfl
theorem gR_xJ (w : mW) (k₀ a₀ : Nat) (x : Int64) : gR (xJ w k₀ a₀ x) = gR w := rfl
theorem aI_xJ (w : mW) (k₀ a₀ : Nat) (x : Int64) : aI (xJ w k₀ a₀ x) = aI w := rfl
theorem aR_xJ (w : mW) (k₀ a₀ : Nat) (x : Int64) : aR (xJ w k₀ a₀ x) = aR w := rfl
theorem aJ_xJ (w : mW) (k₀ a₀ : Nat) (x : Int64) (k a : Nat) : aJ (xJ w k₀ a₀ x) k a = if k = k₀ ∧ a = a₀ then x else aJ w k a := rfl
theorem aJ_xJ_eq (w : mW) (k₀ a₀ : Nat) (x : Int64) : aJ (xJ w k₀ a₀ x) k₀ a₀ = x := if_pos ⟨rfl, rfl⟩
theorem aJ_xJ_ne (w : mW) (k₀ a₀ : Nat) (x : Int64) {k a : Nat} (h : k ≠ k₀) : aJ (xJ w k₀ a₀ x) k a = aJ w k a := if_neg (fun q => h q.1)
theorem aJ_xJ_na (w : mW) (k₀ a₀ : Nat) (x : Int64) {k a : Nat} (h : a ≠ a₀) : aJ (xJ w k₀ a₀ x) k a = aJ w k a := if_neg (fun q => h q.2)
theorem aJ_xJ_nk (w : mW) (k₀ a₀ : Nat) (x : Int64) {k : Nat} (h : k ≠ k₀) : aJ (xJ w k₀ a₀ x) k = aJ w k := funext fun z => if_neg (fun q => h q.1)
theorem gK_nO (w : mW) (q c a : Nat) : gK (nO w q c) a = if a = q then some (.inl c) else gK w a := rfl
theorem gI_nO (w : mW) (q c k a : Nat) : gI (nO w q c) k a = if a = q then 0 else gI w k a := rfl
theorem gR_nO (w : mW) (q c k a : Nat) : gR (nO w q c) k a = if a = q then none else gR w k a := rfl
theorem aI_nO (w : mW) (q c : Nat) : aI (nO w q c) = aI w := rfl
theorem aR_nO (w : mW) (q c : Nat) : aR (nO w q c) = aR w := rfl
theorem aJ_nO (w : mW) (q c : Nat) : aJ (nO w q c) = aJ w := rfl
theorem gK_nA (w : mW) (q t n a : Nat) : gK (nA w q t n) a = if a = q then some (.inr (t, n)) else gK w a := rfl
theorem gI_nA (w : mW) (q t n : Nat) : gI (nA w q t n) = gI w := rfl
theorem gR_nA (w : mW) (q t n : Nat) : gR (nA w q t n) = gR w := rfl
theorem aI_nA (w : mW) (q t n a i : Nat) : aI (nA w q t n) a i = if a = q then 0 else aI w a i := rfl
theorem aR_nA (w : mW) (q t n a i : Nat) : aR (nA w q t n) a i = if a = q then none else aR w a i := rfl
theorem aJ_nA (w : mW) (q t n a i : Nat) : aJ (nA w q t n) a i = if a = q then 0 else aJ w a i := rfl
/-! cells by maps -/
def mfv (w : mW) (c j a : Nat) : Value := if fr c j = true then va_rf (gR w (fg c j) a) else .int (gI w (fg c j) a)
def mav (w : mW) (t a j : Nat) : Value := if ar t = 1 then va_rf (aR w a j) else if ar t = 2 then .long (aJ w a j) else .int (aI w a j)
def m_at (D : va_G) (dA : Nat → ClassId) (w : mW) (H : Heap) (a : Nat) (k : mKi) : Prop := match k with
  | .inl c => ∃ r : vw_C, vwCl[c]? = some r ∧ t_OB a (D.1 c) r.2.2 (D.2 c) H (fun j => mfv w c j a)
  | .inr tn => H[a]? = some (arrV (dA tn.1) tn.2 (mav w tn.1 a))
def mRep (D : va_G) (dA : Nat → ClassId) (A : Nat → Prop) (w : mW) (H : Heap) : Prop := ∀ (a : Nat) (k : mKi), gK w a = some k → m_at D dA w H a k ∧ A a
theorem m_at.lt {D : va_G} {dA : Nat → ClassId} {w : mW} {H : Heap} {a : Nat} {k : mKi} (h : m_at D dA w H a k) : a < H.size := by
  cases k with
  | inl c =>
    obtain ⟨r, h1, cell, h2, -⟩ := h
    exact (Array.getElem?_eq_some_iff.mp h2).1
  | inr tn => exact (Array.getElem?_eq_some_iff.mp h).1
theorem m_at.kept {D : va_G} {dA : Nat → ClassId} {w w1 : mW} {H H1 : Heap} {a : Nat} {k : mKi} (h : m_at D dA w H a k) (hq : H1[a]? = H[a]?) (hf : ∀ c j, mfv w1 c j a = mfv w c j a) (ha : ∀ t, mav w1 t a = mav w t a) : m_at D dA w1 H1 a k := by
  cases k with
  | inl c =>
    obtain ⟨r, h1, h2⟩ := h
    exact ⟨r, h1, (h2.kept hq).to (fun j _ => (hf c j).symm)⟩
  | inr tn =>
    show H1[a]? = some (arrV (dA tn.1) tn.2 (mav w1 tn.1 a))
    rw [hq, ha tn.1]
    exact h
theorem mRep.fresh {D : va_G} {dA : Nat → ClassId} {A : Nat → Prop} {w : mW} {H : Heap} (h : mRep D dA A w H) {q : Nat} (hq : H.size ≤ q) : gK w q = none := by
  cases hk : gK w q with
  | none => rfl
  | some k => exact absurd (h q k hk).1.lt (Nat.not_lt.mpr hq)
/-- what the tables say, apart from the words that every contract carries -/
def mNw (U : State) : Prop := (∀ q ∈ mCast, va_Nw (.castable q.1 q.2) U) ∧ (∀ q ∈ mNoCast, va_Nc q.1 q.2 U) ∧ (∀ x ∈ mDecl, va_Nw (.declares x) U) ∧ (∀ q ∈ mNestM, va_Nw (.methodLinkNest q.1 q.2.1 q.2.2.1 q.2.2.2) U) ∧ ∀ C ∈ mOver, va_AO C U
def mKn (D : va_G) (dA : Nat → ClassId) (U : State) : Prop := va_K D vwCl [] U ∧ (∀ t ty, tyA t = some ty → ArrOfT U (dA t) ty ∧ va_RA U (dA t) ty) ∧ mNw U
theorem mNw.warm {s U : State} (hW : s.WarmedH U.vm) (h : mNw s) : mNw U :=
  ⟨fun q hq => va_Nw.warmC hW (h.1 q hq), fun q hq => (h.2.1 q hq).moved hW.alike, fun x hx => va_Nw.warmD hW (h.2.2.1 x hx), fun q hq => va_Nw.warmM hW (h.2.2.2.1 q hq), fun C hC => (h.2.2.2.2 C hC).moved hW.alike⟩
theorem mKn.warm {D : va_G} {dA : Nat → ClassId} {s U : State} (hW : s.WarmedH U.vm) (h : mKn D dA s) : mKn D dA U :=
  ⟨va_K.moved hW.alike h.1, fun t ty ht => ⟨arrOfT_moved hW.alike (h.2.1 t ty ht).1, (h.2.1 t ty ht).2.moved hW.alike⟩, h.2.2.warm hW⟩
theorem mNw.same {u U : State} (hv : u.vm = U.vm) (h : mNw u) : mNw U :=
  ⟨fun q hq => va_Nw.same rfl hv (h.1 q hq), fun q hq => (h.2.1 q hq).moved (hv ▸ Vm.Alike.refl _), fun x hx => va_Nw.same rfl hv (h.2.2.1 x hx), fun q hq => va_Nw.same rfl hv (h.2.2.2.1 q hq), fun C hC => (h.2.2.2.2 C hC).moved (hv ▸ Vm.Alike.refl _)⟩
theorem mKn.same {D : va_G} {dA : Nat → ClassId} {u U : State} (hv : u.vm = U.vm) (h : mKn D dA u) : mKn D dA U :=
  ⟨va_K.moved (hv ▸ Vm.Alike.refl _) h.1, fun t ty ht => ⟨arrOfT_moved (hv ▸ Vm.Alike.refl _) (h.2.1 t ty ht).1, (h.2.1 t ty ht).2.moved (hv ▸ Vm.Alike.refl _)⟩, h.2.2.same hv⟩
theorem mAll_good : ∀ w ∈ mAll, w ∈ mAll ∧ ((w.onTables && w.keeps) = true ∨ ∃ ty, w = .arrayClass ty) := fun w h => ⟨h, good_of_word (by unfold mAll at h; exact (List.mem_filter.mp h).2)⟩
/-- where a method stands -/
def mX (p : Program) (s : State) (m : MethodId) (args : Array Value) (meth : Method) (c : Code) (own nm : String) (cc : ByteArray) (nL : Nat) (ret : Option FieldType) (D : va_G) (dA : Nat → ClassId) (A : Nat → Prop) : Prop :=
  p.tables.exec = Jvm.exec ∧ c.code = cc ∧ c.maxLocals = nL ∧ s.vm.findClass own = some m.cls ∧ (∀ w ∈ mAll, w.before args s = true) ∧ mKn D dA s ∧ (∀ q, s.heap.size ≤ q → A q) ∧ meth.sig.returnType = ret ∧ meth.locks = false ∧ meth.name = nm
section MX
variable {p : Program} {s : State} {m : MethodId} {args : Array Value} {meth : Method} {c : Code} {own nm : String} {cc : ByteArray} {nL : Nat} {ret : Option FieldType} {D : va_G} {dA : Nat → ClassId} {A : Nat → Prop}
theorem mX.x (X : mX p s m args meth c own nm cc nL ret D dA A) : p.tables.exec = Jvm.exec := X.1
theorem mX.b (X : mX p s m args meth c own nm cc nL ret D dA A) : c.code = cc := X.2.1
theorem mX.ml (X : mX p s m args meth c own nm cc nL ret D dA A) : c.maxLocals = nL := X.2.2.1
theorem mX.oc (X : mX p s m args meth c own nm cc nL ret D dA A) : s.vm.findClass own = some m.cls := X.2.2.2.1
theorem mX.ts (X : mX p s m args meth c own nm cc nL ret D dA A) : ∀ w ∈ mAll, w.before args s = true := X.2.2.2.2.1
theorem mX.kn (X : mX p s m args meth c own nm cc nL ret D dA A) : mKn D dA s := X.2.2.2.2.2.1
theorem mX.fresh (X : mX p s m args meth c own nm cc nL ret D dA A) : ∀ q, s.heap.size ≤ q → A q := X.2.2.2.2.2.2.1
theorem mX.rt (X : mX p s m args meth c own nm cc nL ret D dA A) : meth.sig.returnType = ret := X.2.2.2.2.2.2.2.1
theorem mX.lk (X : mX p s m args meth c own nm cc nL ret D dA A) : meth.locks = false := X.2.2.2.2.2.2.2.2.1
theorem mX.nn (X : mX p s m args meth c own nm cc nL ret D dA A) : meth.name = nm := X.2.2.2.2.2.2.2.2.2
end MX
/-- the machine, seen by maps -/
def mV (p : Program) (l : Launch) (e : Env) (R : Room) (s : State) (m : MethodId) (args : Array Value) (below : List Frame) (meth : Method) (c : Code) (D : va_G) (dA : Nat → ClassId) (A : Nat → Prop) (nL : Nat) (w : mW) (cells slots : Nat) (Q : State → Prop) (pc : Nat) (lv : tL) (st : List tV) : Prop :=
  ∀ (H : Heap) (locs : List Loc) (ls : Array Slot), mRep D dA A w H → va_S A s.heap H locs → lv_has ls nL (lvm lv) → W p l e R s m args below meth c H locs cells slots Q (F0 m pc ls (st.map tv))
/-- a class's tables -/
def mTab (c : Nat) (C : String) (T : u_T) (N : Nat) (ty0 : Nat → FieldType) : Prop :=
  vwCl[c]? = some (C, T, N) ∧ (∀ w ∈ u_ws C T N, w ∈ mAll) ∧ (∀ k, k < N → parseFieldDescriptor (T k).2.2.1 = some (ty0 k)) ∧ (∀ a, a < N → ∀ b, b < N → a ≠ b → (T a).2.1 ≠ (T b).2.1) ∧ (∀ i, i < N → ∀ j, j < N → i ≠ j → fg c i ≠ fg c j) ∧ ∀ j, j < N → defaultValue (ty0 j) = if fr c j = true then .null else .int 0
/-- a place in the code that reads or writes field k of objects of the classes cs -/
def sOk (own : String) (idx : Nat) (cs : List Nat) (k : Nat) (b fin wr : Bool) (ty : FieldType) : Prop :=
  ∀ c ∈ cs, ∃ (C : String) (T : u_T) (N : Nat) (ty0 : Nat → FieldType) (j : Nat) (ref : String), mTab c C T N ty0 ∧ j < N ∧ Cond.fieldLink own idx ref (T j).2.1 (T j).2.2.1 ∈ mAll ∧ (ref = (T j).1 ∨ Cond.sameField ref (T j).1 (T j).2.1 (T j).2.2.1 ∈ mAll) ∧ fg c j = k ∧ fr c j = b ∧ (T j).2.2.2 = fin ∧ (wr = true → (T j).1 = own) ∧ ty0 j = ty
def mIs (w : mW) (cs : List Nat) (a : Nat) : Prop := ∃ c ∈ cs, gK w a = some (.inl c)
theorem mIs.mono {w : mW} {cs cs' : List Nat} {a : Nat} (h : mIs w cs a) (hs : ∀ c ∈ cs, c ∈ cs') : mIs w cs' a := by
  obtain ⟨c, hc, hk⟩ := h
  exact ⟨c, hs c hc, hk⟩
theorem mIs.one {w : mW} {c a : Nat} (h : gK w a = some (.inl c)) : mIs w [c] a := ⟨c, List.mem_singleton.mpr rfl, h⟩
theorem m_same {args : Array Value} {s : State} {ref o n d : String} (hts : ∀ w ∈ mAll, w.before args s = true) (h : ref = o ∨ Cond.sameField ref o n d ∈ mAll) (x : ClassId × Class × Nat × Field) (hx : s.fieldFound? o n d = some x) : s.fieldFound? ref n d = some x := by
  rcases h with rfl | h
  · exact hx
  · exact u_same (hts _ h) x hx
/-- one slot of one object changes -/
theorem mRep.setf {D : va_G} {dA : Nat → ClassId} {A : Nat → Prop} {w w1 : mW} {H H1 : Heap} {a c j N : Nat} {cell : Cell} {v : Value} {C : String} {T : u_T} (hP : mRep D dA A w H) (hk : gK w a = some (.inl c)) (hcl : vwCl[c]? = some (C, T, N)) (hj : j < N)
    (q2 : cell.cls = D.1 c) (q3 : cell.vm = .none) (q4 : ∀ k, k < N → cell.slots[D.2 c k]? = some (mfv w c k a)) (hap : ∀ x y, x < N → y < N → x ≠ y → D.2 c x ≠ D.2 c y)
    (e1 : H1[a]? = some (cell.setSlot (D.2 c j) v)) (e3 : ∀ q : Nat, q ≠ a → H1[q]? = H[q]?)
    (gk : gK w1 = gK w) (hne : ∀ a' c' j', a' ≠ a → mfv w1 c' j' a' = mfv w c' j' a') (hav : mav w1 = mav w) (heq : mfv w1 c j a = v) (hot : ∀ j', j' < N → j' ≠ j → mfv w1 c j' a = mfv w c j' a) : mRep D dA A w1 H1 := by
  intro a' k' hk'
  rw [gk] at hk'
  by_cases h : a' = a
  · subst h
    cases hk.symm.trans hk'
    refine ⟨⟨(C, T, N), hcl, t_OB.to (V := updV (fun k => mfv w c k a') j v) ⟨_, e1, q2, q3, t_set q4 hap hj v⟩ (fun i hi => ?_)⟩, (hP a' _ hk).2⟩
    by_cases hij : i = j
    · subst hij
      show updV _ i v i = _
      rw [heq]
      simp [updV]
    · show updV _ j v i = _
      rw [hot i hi hij]
      simp [updV, hij]
  · obtain ⟨h1, h2⟩ := hP a' k' hk'
    exact ⟨h1.kept (e3 a' h) (fun c' j' => hne a' c' j' h) (fun t => by rw [hav]), h2⟩
theorem mfv_sI_na {w : mW} {k a : Nat} {x : Int32} {a' c j : Nat} (h : a' ≠ a) : mfv (sI w k a x) c j a' = mfv w c j a' := by
  unfold mfv
  rw [gR_sI, gI_sI_na _ _ _ _ h]
theorem mfv_sR_na {w : mW} {k a : Nat} {x : Option Nat} {a' c j : Nat} (h : a' ≠ a) : mfv (sR w k a x) c j a' = mfv w c j a' := by
  unfold mfv
  rw [gI_sR, gR_sR_na _ _ _ _ h]
theorem mfv_sI_nk {w : mW} {k a : Nat} {x : Int32} {a' c j : Nat} (h : fg c j ≠ k) : mfv (sI w k a x) c j a' = mfv w c j a' := by
  unfold mfv
  rw [gR_sI, gI_sI_ne _ _ _ _ h]
theorem mfv_sR_nk {w : mW} {k a : Nat} {x : Option Nat} {a' c j : Nat} (h : fg c j ≠ k) : mfv (sR w k a x) c j a' = mfv w c j a' := by
  unfold mfv
  rw [gI_sR, gR_sR_ne _ _ _ _ h]
/-! the rows: an instruction each -/
section MV
variable {p : Program} {l : Launch} {e : Env} {R : Room} {s : State} {m : MethodId} {args : Array Value} {below : List Frame} {meth : Method} {c : Code} {own nm : String} {cc : ByteArray} {nL : Nat} {ret : Option FieldType} {D : va_G} {dA : Nat → ClassId} {A : Nat → Prop} {w : mW} {cells slots : Nat} {Q : State → Prop} {pc : Nat} {lv : tL} {st : List tV}
theorem mv_iconst (X : mX p s m args meth c own nm cc nL ret D dA A) {n : Int} {v : Int32} (hd : decode cc pc = .ok (.iconst n, 1)) (hv : Int32.ofInt n = v) (kk : mV p l e R s m args below meth c D dA A nL w cells slots Q (pc + 1) lv (vI v :: st)) : mV p l e R s m args below meth c D dA A nL w cells slots Q pc lv st :=
  fun H locs ls hP hS hl => lv_iconst X.x X.b hd hv (kk H locs ls hP hS hl)
theorem mv_bipush (X : mX p s m args meth c own nm cc nL ret D dA A) {n : Int} {v : Int32} (hd : decode cc pc = .ok (.bipush n, 2)) (hv : (Int8.ofInt n).toInt32 = v) (kk : mV p l e R s m args below meth c D dA A nL w cells slots Q (pc + 2) lv (vI v :: st)) : mV p l e R s m args below meth c D dA A nL w cells slots Q pc lv st :=
  fun H locs ls hP hS hl => lv_bipush X.x X.b hd hv (kk H locs ls hP hS hl)
theorem mv_sipush (X : mX p s m args meth c own nm cc nL ret D dA A) {n : Int} {v : Int32} (hd : decode cc pc = .ok (.sipush n, 3)) (hv : (Int16.ofInt n).toInt32 = v) (kk : mV p l e R s m args below meth c D dA A nL w cells slots Q (pc + 3) lv (vI v :: st)) : mV p l e R s m args below meth c D dA A nL w cells slots Q pc lv st :=
  fun H locs ls hP hS hl => lv_sipush X.x X.b hd hv (kk H locs ls hP hS hl)
theorem mv_null (X : mX p s m args meth c own nm cc nL ret D dA A)  (hd : decode cc pc = .ok (.aconst_null, 1)) (kk : mV p l e R s m args below meth c D dA A nL w cells slots Q (pc + 1) lv (vR none :: st)) : mV p l e R s m args below meth c D dA A nL w cells slots Q pc lv st :=
  fun H locs ls hP hS hl => lv_null X.x X.b hd (kk H locs ls hP hS hl)
theorem mv_iload (X : mX p s m args meth c own nm cc nL ret D dA A) {i : Nat} {x : Int32} (k : Nat) (hd : decode cc pc = .ok (.iload i, 2)) (h : lv[k]? = some (i, vI x)) (kk : mV p l e R s m args below meth c D dA A nL w cells slots Q (pc + 2) lv (vI x :: st)) : mV p l e R s m args below meth c D dA A nL w cells slots Q pc lv st :=
  fun H locs ls hP hS hl => lv_iload X.x X.b hd (lv_at hl k (lvm_get h)) (kk H locs ls hP hS hl)
theorem mv_iload_n (X : mX p s m args meth c own nm cc nL ret D dA A) {i : Fin 4} {x : Int32} (k : Nat) (hd : decode cc pc = .ok (.iload_n i, 1)) (h : lv[k]? = some ((i : Nat), vI x)) (kk : mV p l e R s m args below meth c D dA A nL w cells slots Q (pc + 1) lv (vI x :: st)) : mV p l e R s m args below meth c D dA A nL w cells slots Q pc lv st :=
  fun H locs ls hP hS hl => lv_iload_n X.x X.b hd rfl (lv_at hl k (lvm_get h)) (kk H locs ls hP hS hl)
theorem mv_aload (X : mX p s m args meth c own nm cc nL ret D dA A) {i : Nat} {x : Option Nat} (k : Nat) (hd : decode cc pc = .ok (.aload i, 2)) (h : lv[k]? = some (i, vR x)) (kk : mV p l e R s m args below meth c D dA A nL w cells slots Q (pc + 2) lv (vR x :: st)) : mV p l e R s m args below meth c D dA A nL w cells slots Q pc lv st := by
  intro H locs ls hP hS hl
  cases x with
  | none => exact lv_aloadN X.x X.b hd (lv_at hl k (lvm_get h)) (kk H locs ls hP hS hl)
  | some a => exact lv_aload X.x X.b hd (lv_at hl k (lvm_get h)) (kk H locs ls hP hS hl)
theorem mv_aload_n (X : mX p s m args meth c own nm cc nL ret D dA A) {i : Fin 4} {x : Option Nat} (k : Nat) (hd : decode cc pc = .ok (.aload_n i, 1)) (h : lv[k]? = some ((i : Nat), vR x)) (kk : mV p l e R s m args below meth c D dA A nL w cells slots Q (pc + 1) lv (vR x :: st)) : mV p l e R s m args below meth c D dA A nL w cells slots Q pc lv st := by
  intro H locs ls hP hS hl
  cases x with
  | none => exact lv_aload_nN X.x X.b hd rfl (lv_at hl k (lvm_get h)) (kk H locs ls hP hS hl)
  | some a => exact lv_aload_n X.x X.b hd rfl (lv_at hl k (lvm_get h)) (kk H locs ls hP hS hl)
theorem mv_istore (X : mX p s m args meth c own nm cc nL ret D dA A) {i : Nat} {x : Int32} {lv' : tL} (hd : decode cc pc = .ok (.istore i, 2)) (hn : i < nL) (hv : tset lv i (vI x) = lv') (kk : mV p l e R s m args below meth c D dA A nL w cells slots Q (pc + 2) lv' st) : mV p l e R s m args below meth c D dA A nL w cells slots Q pc lv (vI x :: st) :=
  fun H locs ls hP hS hl => lv_istore X.x X.b hd hl hn (lvm_set lv i (vI x)) (fun ls' hl' => kk H locs ls' hP hS (hv ▸ hl'))
theorem mv_astore (X : mX p s m args meth c own nm cc nL ret D dA A) {i : Nat} {x : Option Nat} {lv' : tL} (hd : decode cc pc = .ok (.astore i, 2)) (hn : i < nL) (hv : tset lv i (vR x) = lv') (kk : mV p l e R s m args below meth c D dA A nL w cells slots Q (pc + 2) lv' st) : mV p l e R s m args below meth c D dA A nL w cells slots Q pc lv (vR x :: st) := by
  intro H locs ls hP hS hl
  cases x with
  | none => exact lv_astoreN X.x X.b hd hl hn (lvm_set lv i (vR none)) (fun ls' hl' => kk H locs ls' hP hS (hv ▸ hl'))
  | some a => exact lv_astore X.x X.b hd hl hn (lvm_set lv i (vR (some a))) (fun ls' hl' => kk H locs ls' hP hS (hv ▸ hl'))
theorem mv_istore_n (X : mX p s m args meth c own nm cc nL ret D dA A) {i : Fin 4} {x : Int32} {lv' : tL} (hd : decode cc pc = .ok (.istore_n i, 1)) (hn : (i : Nat) < nL) (hv : tset lv (i : Nat) (vI x) = lv') (kk : mV p l e R s m args below meth c D dA A nL w cells slots Q (pc + 1) lv' st) : mV p l e R s m args below meth c D dA A nL w cells slots Q pc lv (vI x :: st) :=
  fun H locs ls hP hS hl => lv_istore_n X.x X.b hd rfl hl hn (lvm_set lv (i : Nat) (vI x)) (fun ls' hl' => kk H locs ls' hP hS (hv ▸ hl'))
theorem mv_astore_n (X : mX p s m args meth c own nm cc nL ret D dA A) {i : Fin 4} {x : Option Nat} {lv' : tL} (hd : decode cc pc = .ok (.astore_n i, 1)) (hn : (i : Nat) < nL) (hv : tset lv (i : Nat) (vR x) = lv') (kk : mV p l e R s m args below meth c D dA A nL w cells slots Q (pc + 1) lv' st) : mV p l e R s m args below meth c D dA A nL w cells slots Q pc lv (vR x :: st) := by
  intro H locs ls hP hS hl
  cases x with
  | none => exact lv_astore_nN X.x X.b hd rfl hl hn (lvm_set lv (i : Nat) (vR none)) (fun ls' hl' => kk H locs ls' hP hS (hv ▸ hl'))
  | some a => exact lv_astore_n X.x X.b hd rfl hl hn (lvm_set lv (i : Nat) (vR (some a))) (fun ls' hl' => kk H locs ls' hP hS (hv ▸ hl'))
theorem mv_iinc (X : mX p s m args meth c own nm cc nL ret D dA A) {i : Nat} {n : Int} {x v : Int32} {lv' : tL} (k : Nat) (hd : decode cc pc = .ok (.iinc i n, 3)) (h : lv[k]? = some (i, vI x)) (hx : x + Int32.ofInt n = v) (hn : i < nL) (hv : tset lv i (vI v) = lv') (kk : mV p l e R s m args below meth c D dA A nL w cells slots Q (pc + 3) lv' st) : mV p l e R s m args below meth c D dA A nL w cells slots Q pc lv st :=
  fun H locs ls hP hS hl => lv_iinc X.x X.b hd hl (lvm_get h) hx hn (lvm_set lv i (vI v)) (fun ls' hl' => kk H locs ls' hP hS (hv ▸ hl'))
theorem mv_iadd (X : mX p s m args meth c own nm cc nL ret D dA A) {x y : Int32} (hd : decode cc pc = .ok (.iadd, 1)) (kk : mV p l e R s m args below meth c D dA A nL w cells slots Q (pc + 1) lv (vI (x + y) :: st)) : mV p l e R s m args below meth c D dA A nL w cells slots Q pc lv (vI y :: vI x :: st) :=
  fun H locs ls hP hS hl => lv_iadd X.x X.b hd (kk H locs ls hP hS hl)
theorem mv_isub (X : mX p s m args meth c own nm cc nL ret D dA A) {x y : Int32} (hd : decode cc pc = .ok (.isub, 1)) (kk : mV p l e R s m args below meth c D dA A nL w cells slots Q (pc + 1) lv (vI (x - y) :: st)) : mV p l e R s m args below meth c D dA A nL w cells slots Q pc lv (vI y :: vI x :: st) :=
  fun H locs ls hP hS hl => lv_isub X.x X.b hd (kk H locs ls hP hS hl)
theorem mv_imul (X : mX p s m args meth c own nm cc nL ret D dA A) {x y : Int32} (hd : decode cc pc = .ok (.imul, 1)) (kk : mV p l e R s m args below meth c D dA A nL w cells slots Q (pc + 1) lv (vI (x * y) :: st)) : mV p l e R s m args below meth c D dA A nL w cells slots Q pc lv (vI y :: vI x :: st) :=
  fun H locs ls hP hS hl => lv_imul X.x X.b hd (kk H locs ls hP hS hl)
theorem mv_iand (X : mX p s m args meth c own nm cc nL ret D dA A) {x y : Int32} (hd : decode cc pc = .ok (.iand, 1)) (kk : mV p l e R s m args below meth c D dA A nL w cells slots Q (pc + 1) lv (vI (x &&& y) :: st)) : mV p l e R s m args below meth c D dA A nL w cells slots Q pc lv (vI y :: vI x :: st) :=
  fun H locs ls hP hS hl => lv_iand X.x X.b hd (kk H locs ls hP hS hl)
theorem mv_ior (X : mX p s m args meth c own nm cc nL ret D dA A) {x y : Int32} (hd : decode cc pc = .ok (.ior, 1)) (kk : mV p l e R s m args below meth c D dA A nL w cells slots Q (pc + 1) lv (vI (x ||| y) :: st)) : mV p l e R s m args below meth c D dA A nL w cells slots Q pc lv (vI y :: vI x :: st) :=
  fun H locs ls hP hS hl => lv_ior X.x X.b hd (kk H locs ls hP hS hl)
theorem mv_ixor (X : mX p s m args meth c own nm cc nL ret D dA A) {x y : Int32} (hd : decode cc pc = .ok (.ixor, 1)) (kk : mV p l e R s m args below meth c D dA A nL w cells slots Q (pc + 1) lv (vI (x ^^^ y) :: st)) : mV p l e R s m args below meth c D dA A nL w cells slots Q pc lv (vI y :: vI x :: st) :=
  fun H locs ls hP hS hl => lv_ixor X.x X.b hd (kk H locs ls hP hS hl)
theorem mv_ineg (X : mX p s m args meth c own nm cc nL ret D dA A) {x : Int32} (hd : decode cc pc = .ok (.ineg, 1)) (kk : mV p l e R s m args below meth c D dA A nL w cells slots Q (pc + 1) lv (vI (-x) :: st)) : mV p l e R s m args below meth c D dA A nL w cells slots Q pc lv (vI x :: st) :=
  fun H locs ls hP hS hl => lv_ineg X.x X.b hd (kk H locs ls hP hS hl)
theorem mv_dup (X : mX p s m args meth c own nm cc nL ret D dA A) {x : tV} (hx : tc x = 1) (hd : decode cc pc = .ok (.dup, 1)) (kk : mV p l e R s m args below meth c D dA A nL w cells slots Q (pc + 1) lv (x :: x :: st)) : mV p l e R s m args below meth c D dA A nL w cells slots Q pc lv (x :: st) :=
  fun H locs ls hP hS hl => lv_dup X.x X.b hd ((tv_cat x).trans hx) (kk H locs ls hP hS hl)
theorem mv_pop (X : mX p s m args meth c own nm cc nL ret D dA A) {x : tV} (hx : tc x = 1) (hd : decode cc pc = .ok (.pop, 1)) (kk : mV p l e R s m args below meth c D dA A nL w cells slots Q (pc + 1) lv st) : mV p l e R s m args below meth c D dA A nL w cells slots Q pc lv (x :: st) :=
  fun H locs ls hP hS hl => lv_pop X.x X.b hd ((tv_cat x).trans hx) (kk H locs ls hP hS hl)
theorem mv_dup_x1 (X : mX p s m args meth c own nm cc nL ret D dA A) {x y : tV} (hx : tc x = 1) (hy : tc y = 1) (hd : decode cc pc = .ok (.dup_x1, 1)) (kk : mV p l e R s m args below meth c D dA A nL w cells slots Q (pc + 1) lv (x :: y :: x :: st)) : mV p l e R s m args below meth c D dA A nL w cells slots Q pc lv (x :: y :: st) :=
  fun H locs ls hP hS hl => lv_dup_x1 X.x X.b hd ((tv_cat x).trans hx) ((tv_cat y).trans hy) (kk H locs ls hP hS hl)
theorem mv_dup_x2 (X : mX p s m args meth c own nm cc nL ret D dA A) {x y z : tV} (hx : tc x = 1) (hy : tc y = 1) (hz : tc z = 1) (hd : decode cc pc = .ok (.dup_x2, 1)) (kk : mV p l e R s m args below meth c D dA A nL w cells slots Q (pc + 1) lv (x :: y :: z :: x :: st)) : mV p l e R s m args below meth c D dA A nL w cells slots Q pc lv (x :: y :: z :: st) :=
  fun H locs ls hP hS hl => lv_dup_x2 X.x X.b hd ((tv_cat x).trans hx) ((tv_cat y).trans hy) ((tv_cat z).trans hz) (kk H locs ls hP hS hl)
theorem mv_dup2 (X : mX p s m args meth c own nm cc nL ret D dA A) {x y : tV} (hx : tc x = 1) (hy : tc y = 1) (hd : decode cc pc = .ok (.dup2, 1)) (kk : mV p l e R s m args below meth c D dA A nL w cells slots Q (pc + 1) lv (x :: y :: x :: y :: st)) : mV p l e R s m args below meth c D dA A nL w cells slots Q pc lv (x :: y :: st) :=
  fun H locs ls hP hS hl => lv_dup2_11 X.x X.b hd ((tv_cat x).trans hx) ((tv_cat y).trans hy) (kk H locs ls hP hS hl)
theorem mv_if_eq (X : mX p s m args meth c own nm cc nL ret D dA A) {x : Int32} {off : Int} {tgt : Nat} (hd : decode cc pc = .ok (.ifCond .eq off, 3)) (ht : (pc : Int) + off = (tgt : Int)) (kt : x = 0 → mV p l e R s m args below meth c D dA A nL w cells slots Q tgt lv st) (kf : ¬ x = 0 → mV p l e R s m args below meth c D dA A nL w cells slots Q (pc + 3) lv st) : mV p l e R s m args below meth c D dA A nL w cells slots Q pc lv (vI x :: st) :=
  fun H locs ls hP hS hl => lv_if_eq X.x X.b hd ht (fun h => kt h H locs ls hP hS hl) (fun h => kf h H locs ls hP hS hl)
theorem mv_if_ne (X : mX p s m args meth c own nm cc nL ret D dA A) {x : Int32} {off : Int} {tgt : Nat} (hd : decode cc pc = .ok (.ifCond .ne off, 3)) (ht : (pc : Int) + off = (tgt : Int)) (kt : ¬ x = 0 → mV p l e R s m args below meth c D dA A nL w cells slots Q tgt lv st) (kf : x = 0 → mV p l e R s m args below meth c D dA A nL w cells slots Q (pc + 3) lv st) : mV p l e R s m args below meth c D dA A nL w cells slots Q pc lv (vI x :: st) :=
  fun H locs ls hP hS hl => lv_if_ne X.x X.b hd ht (fun h => kt h H locs ls hP hS hl) (fun h => kf h H locs ls hP hS hl)
theorem mv_if_lt (X : mX p s m args meth c own nm cc nL ret D dA A) {x : Int32} {off : Int} {tgt : Nat} (hd : decode cc pc = .ok (.ifCond .lt off, 3)) (ht : (pc : Int) + off = (tgt : Int)) (kt : x < 0 → mV p l e R s m args below meth c D dA A nL w cells slots Q tgt lv st) (kf : ¬ x < 0 → mV p l e R s m args below meth c D dA A nL w cells slots Q (pc + 3) lv st) : mV p l e R s m args below meth c D dA A nL w cells slots Q pc lv (vI x :: st) :=
  fun H locs ls hP hS hl => lv_if_lt X.x X.b hd ht (fun h => kt h H locs ls hP hS hl) (fun h => kf h H locs ls hP hS hl)
theorem mv_if_ge (X : mX p s m args meth c own nm cc nL ret D dA A) {x : Int32} {off : Int} {tgt : Nat} (hd : decode cc pc = .ok (.ifCond .ge off, 3)) (ht : (pc : Int) + off = (tgt : Int)) (kt : 0 ≤ x → mV p l e R s m args below meth c D dA A nL w cells slots Q tgt lv st) (kf : ¬ 0 ≤ x → mV p l e R s m args below meth c D dA A nL w cells slots Q (pc + 3) lv st) : mV p l e R s m args below meth c D dA A nL w cells slots Q pc lv (vI x :: st) :=
  fun H locs ls hP hS hl => lv_if_ge X.x X.b hd ht (fun h => kt h H locs ls hP hS hl) (fun h => kf h H locs ls hP hS hl)
theorem mv_if_gt (X : mX p s m args meth c own nm cc nL ret D dA A) {x : Int32} {off : Int} {tgt : Nat} (hd : decode cc pc = .ok (.ifCond .gt off, 3)) (ht : (pc : Int) + off = (tgt : Int)) (kt : 0 < x → mV p l e R s m args below meth c D dA A nL w cells slots Q tgt lv st) (kf : ¬ 0 < x → mV p l e R s m args below meth c D dA A nL w cells slots Q (pc + 3) lv st) : mV p l e R s m args below meth c D dA A nL w cells slots Q pc lv (vI x :: st) :=
  fun H locs ls hP hS hl => lv_if_gt X.x X.b hd ht (fun h => kt h H locs ls hP hS hl) (fun h => kf h H locs ls hP hS hl)
theorem mv_if_le (X : mX p s m args meth c own nm cc nL ret D dA A) {x : Int32} {off : Int} {tgt : Nat} (hd : decode cc pc = .ok (.ifCond .le off, 3)) (ht : (pc : Int) + off = (tgt : Int)) (kt : x ≤ 0 → mV p l e R s m args below meth c D dA A nL w cells slots Q tgt lv st) (kf : ¬ x ≤ 0 → mV p l e R s m args below meth c D dA A nL w cells slots Q (pc + 3) lv st) : mV p l e R s m args below meth c D dA A nL w cells slots Q pc lv (vI x :: st) :=
  fun H locs ls hP hS hl => lv_if_le X.x X.b hd ht (fun h => kt h H locs ls hP hS hl) (fun h => kf h H locs ls hP hS hl)
theorem mv_icmp_eq (X : mX p s m args meth c own nm cc nL ret D dA A) {x y : Int32} {off : Int} {tgt : Nat} (hd : decode cc pc = .ok (.if_icmp .eq off, 3)) (ht : (pc : Int) + off = (tgt : Int)) (kt : x = y → mV p l e R s m args below meth c D dA A nL w cells slots Q tgt lv st) (kf : ¬ x = y → mV p l e R s m args below meth c D dA A nL w cells slots Q (pc + 3) lv st) : mV p l e R s m args below meth c D dA A nL w cells slots Q pc lv (vI y :: vI x :: st) :=
  fun H locs ls hP hS hl => lv_icmp_eq X.x X.b hd ht (fun h => kt h H locs ls hP hS hl) (fun h => kf h H locs ls hP hS hl)
theorem mv_icmp_ne (X : mX p s m args meth c own nm cc nL ret D dA A) {x y : Int32} {off : Int} {tgt : Nat} (hd : decode cc pc = .ok (.if_icmp .ne off, 3)) (ht : (pc : Int) + off = (tgt : Int)) (kt : ¬ x = y → mV p l e R s m args below meth c D dA A nL w cells slots Q tgt lv st) (kf : x = y → mV p l e R s m args below meth c D dA A nL w cells slots Q (pc + 3) lv st) : mV p l e R s m args below meth c D dA A nL w cells slots Q pc lv (vI y :: vI x :: st) :=
  fun H locs ls hP hS hl => lv_icmp_ne X.x X.b hd ht (fun h => kt h H locs ls hP hS hl) (fun h => kf h H locs ls hP hS hl)
theorem mv_icmp_lt (X : mX p s m args meth c own nm cc nL ret D dA A) {x y : Int32} {off : Int} {tgt : Nat} (hd : decode cc pc = .ok (.if_icmp .lt off, 3)) (ht : (pc : Int) + off = (tgt : Int)) (kt : x < y → mV p l e R s m args below meth c D dA A nL w cells slots Q tgt lv st) (kf : ¬ x < y → mV p l e R s m args below meth c D dA A nL w cells slots Q (pc + 3) lv st) : mV p l e R s m args below meth c D dA A nL w cells slots Q pc lv (vI y :: vI x :: st) :=
  fun H locs ls hP hS hl => lv_icmp_lt X.x X.b hd ht (fun h => kt h H locs ls hP hS hl) (fun h => kf h H locs ls hP hS hl)
theorem mv_icmp_ge (X : mX p s m args meth c own nm cc nL ret D dA A) {x y : Int32} {off : Int} {tgt : Nat} (hd : decode cc pc = .ok (.if_icmp .ge off, 3)) (ht : (pc : Int) + off = (tgt : Int)) (kt : y ≤ x → mV p l e R s m args below meth c D dA A nL w cells slots Q tgt lv st) (kf : ¬ y ≤ x → mV p l e R s m args below meth c D dA A nL w cells slots Q (pc + 3) lv st) : mV p l e R s m args below meth c D dA A nL w cells slots Q pc lv (vI y :: vI x :: st) :=
  fun H locs ls hP hS hl => lv_icmp_ge X.x X.b hd ht (fun h => kt h H locs ls hP hS hl) (fun h => kf h H locs ls hP hS hl)
theorem mv_icmp_gt (X : mX p s m args meth c own nm cc nL ret D dA A) {x y : Int32} {off : Int} {tgt : Nat} (hd : decode cc pc = .ok (.if_icmp .gt off, 3)) (ht : (pc : Int) + off = (tgt : Int)) (kt : y < x → mV p l e R s m args below meth c D dA A nL w cells slots Q tgt lv st) (kf : ¬ y < x → mV p l e R s m args below meth c D dA A nL w cells slots Q (pc + 3) lv st) : mV p l e R s m args below meth c D dA A nL w cells slots Q pc lv (vI y :: vI x :: st) :=
  fun H locs ls hP hS hl => lv_icmp_gt X.x X.b hd ht (fun h => kt h H locs ls hP hS hl) (fun h => kf h H locs ls hP hS hl)
theorem mv_icmp_le (X : mX p s m args meth c own nm cc nL ret D dA A) {x y : Int32} {off : Int} {tgt : Nat} (hd : decode cc pc = .ok (.if_icmp .le off, 3)) (ht : (pc : Int) + off = (tgt : Int)) (kt : x ≤ y → mV p l e R s m args below meth c D dA A nL w cells slots Q tgt lv st) (kf : ¬ x ≤ y → mV p l e R s m args below meth c D dA A nL w cells slots Q (pc + 3) lv st) : mV p l e R s m args below meth c D dA A nL w cells slots Q pc lv (vI y :: vI x :: st) :=
  fun H locs ls hP hS hl => lv_icmp_le X.x X.b hd ht (fun h => kt h H locs ls hP hS hl) (fun h => kf h H locs ls hP hS hl)
theorem mv_acmp_eq (X : mX p s m args meth c own nm cc nL ret D dA A) {x y : Option Nat} {off : Int} {tgt : Nat} (hd : decode cc pc = .ok (.if_acmp .eq off, 3)) (ht : (pc : Int) + off = (tgt : Int)) (kt : x = y → mV p l e R s m args below meth c D dA A nL w cells slots Q tgt lv st) (kf : ¬ x = y → mV p l e R s m args below meth c D dA A nL w cells slots Q (pc + 3) lv st) : mV p l e R s m args below meth c D dA A nL w cells slots Q pc lv (vR y :: vR x :: st) :=
  fun H locs ls hP hS hl => lv_acmp_eq X.x X.b hd ht (fun h => kt h H locs ls hP hS hl) (fun h => kf h H locs ls hP hS hl)
theorem mv_acmp_ne (X : mX p s m args meth c own nm cc nL ret D dA A) {x y : Option Nat} {off : Int} {tgt : Nat} (hd : decode cc pc = .ok (.if_acmp .ne off, 3)) (ht : (pc : Int) + off = (tgt : Int)) (kt : ¬ x = y → mV p l e R s m args below meth c D dA A nL w cells slots Q tgt lv st) (kf : x = y → mV p l e R s m args below meth c D dA A nL w cells slots Q (pc + 3) lv st) : mV p l e R s m args below meth c D dA A nL w cells slots Q pc lv (vR y :: vR x :: st) :=
  fun H locs ls hP hS hl => lv_acmp_ne X.x X.b hd ht (fun h => kt h H locs ls hP hS hl) (fun h => kf h H locs ls hP hS hl)
theorem mv_ifnull (X : mX p s m args meth c own nm cc nL ret D dA A) {x : Option Nat} {off : Int} {tgt : Nat} (hd : decode cc pc = .ok (.ifnull off, 3)) (ht : (pc : Int) + off = (tgt : Int)) (kt : x = none → mV p l e R s m args below meth c D dA A nL w cells slots Q tgt lv st) (kf : ∀ a, x = some a → mV p l e R s m args below meth c D dA A nL w cells slots Q (pc + 3) lv st) : mV p l e R s m args below meth c D dA A nL w cells slots Q pc lv (vR x :: st) := by
  intro H locs ls hP hS hl
  cases x with
  | none => exact lv_ifnullN X.x X.b hd ht (kt rfl H locs ls hP hS hl)
  | some a => exact lv_ifnull X.x X.b hd (kf a rfl H locs ls hP hS hl)
theorem mv_ifnonnull (X : mX p s m args meth c own nm cc nL ret D dA A) {x : Option Nat} {off : Int} {tgt : Nat} (hd : decode cc pc = .ok (.ifnonnull off, 3)) (ht : (pc : Int) + off = (tgt : Int)) (kt : ∀ a, x = some a → mV p l e R s m args below meth c D dA A nL w cells slots Q tgt lv st) (kf : x = none → mV p l e R s m args below meth c D dA A nL w cells slots Q (pc + 3) lv st) : mV p l e R s m args below meth c D dA A nL w cells slots Q pc lv (vR x :: st) := by
  intro H locs ls hP hS hl
  cases x with
  | none => exact lv_ifnonnullN X.x X.b hd (kf rfl H locs ls hP hS hl)
  | some a => exact lv_ifnonnull X.x X.b hd ht (kt a rfl H locs ls hP hS hl)
theorem mv_goto (X : mX p s m args meth c own nm cc nL ret D dA A) {off : Int} {tgt : Nat} (hd : decode cc pc = .ok (.goto off, 3)) (ht : (pc : Int) + off = (tgt : Int)) (kk : mV p l e R s m args below meth c D dA A nL w cells slots Q tgt lv st) : mV p l e R s m args below meth c D dA A nL w cells slots Q pc lv st :=
  fun H locs ls hP hS hl => lv_goto X.x X.b hd ht (kk H locs ls hP hS hl)
theorem mv_tabOut (X : mX p s m args meth c own nm cc nL ret D dA A) {dflt lo hi : Int} {offs : Array Int} {len : Nat} {x : Int32} {tgt : Nat} (hd : decode cc pc = .ok (.tableswitch dflt lo hi offs, len)) (h : x.toInt < lo ∨ hi < x.toInt) (ht : (pc : Int) + dflt = (tgt : Int)) (kk : mV p l e R s m args below meth c D dA A nL w cells slots Q tgt lv st) : mV p l e R s m args below meth c D dA A nL w cells slots Q pc lv (vI x :: st) :=
  fun H locs ls hP hS hl => lv_tableOut X.x X.b hd h ht (kk H locs ls hP hS hl)
theorem mv_tabIn (X : mX p s m args meth c own nm cc nL ret D dA A) {dflt lo hi : Int} {offs : Array Int} {len : Nat} {x : Int32} {off : Int} {tgt : Nat} (hd : decode cc pc = .ok (.tableswitch dflt lo hi offs, len)) (h1 : ¬ x.toInt < lo) (h2 : ¬ hi < x.toInt) (ho : offs[(x.toInt - lo).toNat]? = some off) (ht : (pc : Int) + off = (tgt : Int)) (kk : mV p l e R s m args below meth c D dA A nL w cells slots Q tgt lv st) : mV p l e R s m args below meth c D dA A nL w cells slots Q pc lv (vI x :: st) :=
  fun H locs ls hP hS hl => lv_tableIn X.x X.b hd h1 h2 ho ht (kk H locs ls hP hS hl)
theorem mv_sub {lv' : tL} (ks : List Nat) (h : ks.filterMap (fun k => lv[k]?) = lv') (kk : mV p l e R s m args below meth c D dA A nL w cells slots Q pc lv' st) : mV p l e R s m args below meth c D dA A nL w cells slots Q pc lv st := by
  intro H locs ls hP hS hl
  refine kk H locs ls hP hS (lv_sub hl ks ?_)
  subst h
  unfold lv_pick lvm
  rw [List.map_filterMap]
  congr 1
  funext k
  rw [List.getElem?_map]
theorem mv_topi {x : Int32} (k : ∀ y : Int32, y = x → mV p l e R s m args below meth c D dA A nL w cells slots Q pc lv (vI y :: st)) : mV p l e R s m args below meth c D dA A nL w cells slots Q pc lv (vI x :: st) := k x rfl
theorem mv_topr {x : Option Nat} (k : ∀ y : Option Nat, y = x → mV p l e R s m args below meth c D dA A nL w cells slots Q pc lv (vR y :: st)) : mV p l e R s m args below meth c D dA A nL w cells slots Q pc lv (vR x :: st) := k x rfl
theorem mv_widen {k n : Nat} (h1 : cells ≤ k) (h2 : slots ≤ n) (kk : mV p l e R s m args below meth c D dA A nL w k n Q pc lv st) : mV p l e R s m args below meth c D dA A nL w cells slots Q pc lv st :=
  fun H locs ls hP hS hl => W.widen h1 h2 (kk H locs ls hP hS hl)
theorem mv_geti (X : mX p s m args meth c own nm cc nL ret D dA A) {idx k a : Nat} {x : Int32} {cs : List Nat} {fin wr : Bool} {ty : FieldType} (hd : decode cc pc = .ok (.getfield idx, 3)) (hs : sOk own idx cs k false fin wr ty) (ha : mIs w cs a) (hv : gI w k a = x) (kk : mV p l e R s m args below meth c D dA A nL w cells slots Q (pc + 3) lv (vI x :: st)) : mV p l e R s m args below meth c D dA A nL w cells slots Q pc lv (vR (some a) :: st) := by
  intro H locs ls hP hS hl
  subst hv
  obtain ⟨c0, hc0, hk⟩ := ha
  obtain ⟨C, T, N, ty0, j, ref, ⟨hcl, hin, -⟩, hj, hlink, hsame, hg, hb, -⟩ := hs c0 hc0
  obtain ⟨⟨r, h1, cell, q1, q2, q3, q4⟩, -⟩ := hP a _ hk
  have hr : r = (C, T, N) := Option.some.inj (h1.symm.trans hcl)
  subst hr
  obtain ⟨hS1, hfc, kC, hkC, hkind⟩ := X.kn.1.1 c0 _ hcl
  obtain ⟨cf, kf, fi, f, hi, hsl⟩ := hS1 j hj
  refine W.getf X.x X.b X.oc (X.ts _ hlink) (m_same X.ts hsame _ hi) (u_facts hfc hkC (u_lays X.ts hin hj) hi).1 q1 (by rw [q3]; exact fun h => by cases h) (v := .int (gI w k a)) ?_ rfl rfl hd (kk H locs ls hP hS hl)
  rw [hsl, q4 j hj]
  show some (mfv w c0 j a) = _
  unfold mfv
  rw [hb, hg]
  rfl
theorem mv_getr (X : mX p s m args meth c own nm cc nL ret D dA A) {idx k a : Nat} {x : Option Nat} {cs : List Nat} {fin wr : Bool} {ty : FieldType} (hd : decode cc pc = .ok (.getfield idx, 3)) (hs : sOk own idx cs k true fin wr ty) (ha : mIs w cs a) (hv : gR w k a = x) (kk : mV p l e R s m args below meth c D dA A nL w cells slots Q (pc + 3) lv (vR x :: st)) : mV p l e R s m args below meth c D dA A nL w cells slots Q pc lv (vR (some a) :: st) := by
  intro H locs ls hP hS hl
  subst hv
  obtain ⟨c0, hc0, hk⟩ := ha
  obtain ⟨C, T, N, ty0, j, ref, ⟨hcl, hin, -⟩, hj, hlink, hsame, hg, hb, -⟩ := hs c0 hc0
  obtain ⟨⟨r, h1, cell, q1, q2, q3, q4⟩, -⟩ := hP a _ hk
  have hr : r = (C, T, N) := Option.some.inj (h1.symm.trans hcl)
  subst hr
  obtain ⟨hS1, hfc, kC, hkC, hkind⟩ := X.kn.1.1 c0 _ hcl
  obtain ⟨cf, kf, fi, f, hi, hsl⟩ := hS1 j hj
  refine W.getf X.x X.b X.oc (X.ts _ hlink) (m_same X.ts hsame _ hi) (u_facts hfc hkC (u_lays X.ts hin hj) hi).1 q1 (by rw [q3]; exact fun h => by cases h) (v := va_rf (gR w k a)) ?_ rfl rfl hd (kk H locs ls hP hS hl)
  rw [hsl, q4 j hj]
  show some (mfv w c0 j a) = _
  unfold mfv
  rw [hb, hg]
  rfl
theorem mv_puti (X : mX p s m args meth c own nm cc nL ret D dA A) {idx k a : Nat} {cs : List Nat} {wr : Bool} {ty : FieldType} {x : Int32} (hd : decode cc pc = .ok (.putfield idx, 3)) (hs : sOk own idx cs k false false wr ty) (ha : mIs w cs a) (hn : narrow ty (.int x) = .int x) (hf : fits ty (.int x) = true) (kk : mV p l e R s m args below meth c D dA A nL (sI w k a x) cells slots Q (pc + 3) lv st) : mV p l e R s m args below meth c D dA A nL w cells slots Q pc lv (vI x :: vR (some a) :: st) := by
  intro H locs ls hP hS hl
  obtain ⟨c0, hc0, hk⟩ := ha
  obtain ⟨C, T, N, ty0, j, ref, ⟨hcl, hin, hpd, hnms, hfi, hdv⟩, hj, hlink, hsame, hg, hb, hfin, hfo, hty⟩ := hs c0 hc0
  obtain ⟨⟨r, h1, cell, q1, q2, q3, q4⟩, hAa⟩ := hP a _ hk
  have hr : r = (C, T, N) := Option.some.inj (h1.symm.trans hcl)
  subst hr
  have hap := va_apart (own := own) X.ts hin ty0 hpd hnms X.kn.1 hcl
  obtain ⟨hS1, hfc, kC, hkC, hkind⟩ := X.kn.1.1 c0 _ hcl
  obtain ⟨cf, kf, fi, f, hi, hsl⟩ := hS1 j hj
  have hpd1 : parseFieldDescriptor (T j).2.2.1 = some ty := by rw [hpd j hj, hty]
  have hst := (u_facts hfc hkC (u_lays X.ts hin hj) hi).1
  have hlay := X.ts _ (hin _ (u_in_lay hj))
  unfold u_lay at hlay
  rw [if_neg (by rw [hfin]; decide)] at hlay
  have h6 := u_store (v := .int x) hfc hkC hkind hlay hi hpd1 hn hf
  refine W.putK X.x X.b (f := f) ⟨X.oc, X.ts _ hlink, ⟨_, _, _, m_same X.ts hsame _ hi⟩, hst⟩ (by rw [q2]; exact h6) q1 q3 (by rw [hsl]; exact k2_hasslot (q4 j hj)) rfl rfl hd fun H' e1 e2 e3 => ?_
  rw [hsl] at e1 ⊢
  refine kk H' _ ls (hP.setf hk hcl hj q2 q3 q4 hap e1 e3 rfl (fun a' c' j' h => mfv_sI_na h) rfl ?_ (fun j' hj' hne => mfv_sI_nk (by rw [← hg]; exact hfi j' hj' j hj hne))) (hS.put e2 e3 hAa) hl
  unfold mfv
  rw [hb, hg]
  show Value.int (gI (sI w k a x) k a) = _
  rw [gI_sI_eq]
  rfl
theorem mv_putr (X : mX p s m args meth c own nm cc nL ret D dA A) {idx k a : Nat} {cs : List Nat} {wr : Bool} {ty : FieldType} {x : Option Nat} (hd : decode cc pc = .ok (.putfield idx, 3)) (hs : sOk own idx cs k true false wr ty) (ha : mIs w cs a) (hn : narrow ty (va_rf x) = va_rf x) (hf : fits ty (va_rf x) = true) (kk : mV p l e R s m args below meth c D dA A nL (sR w k a x) cells slots Q (pc + 3) lv st) : mV p l e R s m args below meth c D dA A nL w cells slots Q pc lv (vR x :: vR (some a) :: st) := by
  intro H locs ls hP hS hl
  obtain ⟨c0, hc0, hk⟩ := ha
  obtain ⟨C, T, N, ty0, j, ref, ⟨hcl, hin, hpd, hnms, hfi, hdv⟩, hj, hlink, hsame, hg, hb, hfin, hfo, hty⟩ := hs c0 hc0
  obtain ⟨⟨r, h1, cell, q1, q2, q3, q4⟩, hAa⟩ := hP a _ hk
  have hr : r = (C, T, N) := Option.some.inj (h1.symm.trans hcl)
  subst hr
  have hap := va_apart (own := own) X.ts hin ty0 hpd hnms X.kn.1 hcl
  obtain ⟨hS1, hfc, kC, hkC, hkind⟩ := X.kn.1.1 c0 _ hcl
  obtain ⟨cf, kf, fi, f, hi, hsl⟩ := hS1 j hj
  have hpd1 : parseFieldDescriptor (T j).2.2.1 = some ty := by rw [hpd j hj, hty]
  have hst := (u_facts hfc hkC (u_lays X.ts hin hj) hi).1
  have hlay := X.ts _ (hin _ (u_in_lay hj))
  unfold u_lay at hlay
  rw [if_neg (by rw [hfin]; decide)] at hlay
  have h6 := u_store (v := va_rf x) hfc hkC hkind hlay hi hpd1 hn hf
  refine W.putK X.x X.b (f := f) ⟨X.oc, X.ts _ hlink, ⟨_, _, _, m_same X.ts hsame _ hi⟩, hst⟩ (by rw [q2]; exact h6) q1 q3 (by rw [hsl]; exact k2_hasslot (q4 j hj)) rfl rfl hd fun H' e1 e2 e3 => ?_
  rw [hsl] at e1 ⊢
  refine kk H' _ ls (hP.setf hk hcl hj q2 q3 q4 hap e1 e3 rfl (fun a' c' j' h => mfv_sR_na h) rfl ?_ (fun j' hj' hne => mfv_sR_nk (by rw [← hg]; exact hfi j' hj' j hj hne))) (hS.put e2 e3 hAa) hl
  unfold mfv
  rw [hb, hg]
  show va_rf (gR (sR w k a x) k a) = _
  rw [gR_sR_eq]
  rfl
theorem mv_putiF (X : mX p s m args meth c own nm cc nL ret D dA A) {idx k a : Nat} {cs : List Nat} {ty : FieldType} {x : Int32} (hd : decode cc pc = .ok (.putfield idx, 3)) (hs : sOk own idx cs k false true true ty) (ha : mIs w cs a) (hnm : nm = "<init>") (hn : narrow ty (.int x) = .int x) (hf : fits ty (.int x) = true) (kk : mV p l e R s m args below meth c D dA A nL (sI w k a x) cells slots Q (pc + 3) lv st) : mV p l e R s m args below meth c D dA A nL w cells slots Q pc lv (vI x :: vR (some a) :: st) := by
  intro H locs ls hP hS hl
  obtain ⟨c0, hc0, hk⟩ := ha
  obtain ⟨C, T, N, ty0, j, ref, ⟨hcl, hin, hpd, hnms, hfi, hdv⟩, hj, hlink, hsame, hg, hb, hfin, hfo, hty⟩ := hs c0 hc0
  obtain ⟨⟨r, h1, cell, q1, q2, q3, q4⟩, hAa⟩ := hP a _ hk
  have hr : r = (C, T, N) := Option.some.inj (h1.symm.trans hcl)
  subst hr
  have hap := va_apart (own := own) X.ts hin ty0 hpd hnms X.kn.1 hcl
  obtain ⟨hS1, hfc, kC, hkC, hkind⟩ := X.kn.1.1 c0 _ hcl
  obtain ⟨cf, kf, fi, f, hi, hsl⟩ := hS1 j hj
  have hpd1 : parseFieldDescriptor (T j).2.2.1 = some ty := by rw [hpd j hj, hty]
  have hst := (u_facts hfc hkC (u_lays X.ts hin hj) hi).1
  have h6 := u_fits (v := .int x) hfc hkC hkind (u_lays X.ts hin hj) hi hpd1 hn hf
  have hlay := X.ts _ (hin _ (u_in_lay hj))
  unfold u_lay at hlay
  rw [if_pos hfin] at hlay
  have hcf : m.cls = cf := by
    obtain ⟨_, _, c', _, _, _, -, -, hf', -, -, -, hown2, -⟩ := Cond.laysFinal_spec hlay
    have e1 : c' = cf := by have := hi.symm.trans hf'; simp at this; exact this.1.symm
    rw [hfo rfl] at hown2
    rw [← e1]; exact Option.some.inj (X.oc.symm.trans hown2)
  refine W.putFinK X.x X.b X.oc (X.ts _ hlink) (m_same X.ts hsame _ hi) hst hcf (X.nn.trans hnm) (by rw [q2]; exact h6) q1 q3 (by rw [hsl]; exact k2_hasslot (q4 j hj)) rfl rfl hd fun H' e1 e2 e3 => ?_
  rw [hsl] at e1 ⊢
  refine kk H' _ ls (hP.setf hk hcl hj q2 q3 q4 hap e1 e3 rfl (fun a' c' j' h => mfv_sI_na h) rfl ?_ (fun j' hj' hne => mfv_sI_nk (by rw [← hg]; exact hfi j' hj' j hj hne))) (hS.put e2 e3 hAa) hl
  unfold mfv
  rw [hb, hg]
  show Value.int (gI (sI w k a x) k a) = _
  rw [gI_sI_eq]
  rfl
theorem mv_putrF (X : mX p s m args meth c own nm cc nL ret D dA A) {idx k a : Nat} {cs : List Nat} {ty : FieldType} {x : Option Nat} (hd : decode cc pc = .ok (.putfield idx, 3)) (hs : sOk own idx cs k true true true ty) (ha : mIs w cs a) (hnm : nm = "<init>") (hn : narrow ty (va_rf x) = va_rf x) (hf : fits ty (va_rf x) = true) (kk : mV p l e R s m args below meth c D dA A nL (sR w k a x) cells slots Q (pc + 3) lv st) : mV p l e R s m args below meth c D dA A nL w cells slots Q pc lv (vR x :: vR (some a) :: st) := by
  intro H locs ls hP hS hl
  obtain ⟨c0, hc0, hk⟩ := ha
  obtain ⟨C, T, N, ty0, j, ref, ⟨hcl, hin, hpd, hnms, hfi, hdv⟩, hj, hlink, hsame, hg, hb, hfin, hfo, hty⟩ := hs c0 hc0
  obtain ⟨⟨r, h1, cell, q1, q2, q3, q4⟩, hAa⟩ := hP a _ hk
  have hr : r = (C, T, N) := Option.some.inj (h1.symm.trans hcl)
  subst hr
  have hap := va_apart (own := own) X.ts hin ty0 hpd hnms X.kn.1 hcl
  obtain ⟨hS1, hfc, kC, hkC, hkind⟩ := X.kn.1.1 c0 _ hcl
  obtain ⟨cf, kf, fi, f, hi, hsl⟩ := hS1 j hj
  have hpd1 : parseFieldDescriptor (T j).2.2.1 = some ty := by rw [hpd j hj, hty]
  have hst := (u_facts hfc hkC (u_lays X.ts hin hj) hi).1
  have h6 := u_fits (v := va_rf x) hfc hkC hkind (u_lays X.ts hin hj) hi hpd1 hn hf
  have hlay := X.ts _ (hin _ (u_in_lay hj))
  unfold u_lay at hlay
  rw [if_pos hfin] at hlay
  have hcf : m.cls = cf := by
    obtain ⟨_, _, c', _, _, _, -, -, hf', -, -, -, hown2, -⟩ := Cond.laysFinal_spec hlay
    have e1 : c' = cf := by have := hi.symm.trans hf'; simp at this; exact this.1.symm
    rw [hfo rfl] at hown2
    rw [← e1]; exact Option.some.inj (X.oc.symm.trans hown2)
  refine W.putFinK X.x X.b X.oc (X.ts _ hlink) (m_same X.ts hsame _ hi) hst hcf (X.nn.trans hnm) (by rw [q2]; exact h6) q1 q3 (by rw [hsl]; exact k2_hasslot (q4 j hj)) rfl rfl hd fun H' e1 e2 e3 => ?_
  rw [hsl] at e1 ⊢
  refine kk H' _ ls (hP.setf hk hcl hj q2 q3 q4 hap e1 e3 rfl (fun a' c' j' h => mfv_sR_na h) rfl ?_ (fun j' hj' hne => mfv_sR_nk (by rw [← hg]; exact hfi j' hj' j hj hne))) (hS.put e2 e3 hAa) hl
  unfold mfv
  rw [hb, hg]
  show va_rf (gR (sR w k a x) k a) = _
  rw [gR_sR_eq]
  rfl
theorem mv_lload (X : mX p s m args meth c own nm cc nL ret D dA A) {i : Nat} {x : Int64} (k : Nat) (hd : decode cc pc = .ok (.lload i, 2)) (h : lv[k]? = some (i, vJ x)) (kk : mV p l e R s m args below meth c D dA A nL w cells slots Q (pc + 2) lv (vJ x :: st)) : mV p l e R s m args below meth c D dA A nL w cells slots Q pc lv st :=
  fun H locs ls hP hS hl => lv_lload X.x X.b hd (lv_at hl k (lvm_get h)) (kk H locs ls hP hS hl)
theorem mv_lstore (X : mX p s m args meth c own nm cc nL ret D dA A) {i : Nat} {x : Int64} {lv' : tL} (hd : decode cc pc = .ok (.lstore i, 2)) (hn : i + 1 < nL) (hv : tset2 lv i (vJ x) = lv') (kk : mV p l e R s m args below meth c D dA A nL w cells slots Q (pc + 2) lv' st) : mV p l e R s m args below meth c D dA A nL w cells slots Q pc lv (vJ x :: st) :=
  fun H locs ls hP hS hl => lv_lstore X.x X.b hd hl hn (lvm_set2 lv i (vJ x)) (fun ls' hl' => kk H locs ls' hP hS (hv ▸ hl'))
theorem mv_lload_n (X : mX p s m args meth c own nm cc nL ret D dA A) {i : Fin 4} {x : Int64} (k : Nat) (hd : decode cc pc = .ok (.lload_n i, 1)) (h : lv[k]? = some ((i : Nat), vJ x)) (kk : mV p l e R s m args below meth c D dA A nL w cells slots Q (pc + 1) lv (vJ x :: st)) : mV p l e R s m args below meth c D dA A nL w cells slots Q pc lv st :=
  fun H locs ls hP hS hl => lv_lload_n X.x X.b hd rfl (lv_at hl k (lvm_get h)) (kk H locs ls hP hS hl)
theorem mv_lstore_n (X : mX p s m args meth c own nm cc nL ret D dA A) {i : Fin 4} {x : Int64} {lv' : tL} (hd : decode cc pc = .ok (.lstore_n i, 1)) (hn : (i : Nat) + 1 < nL) (hv : tset2 lv (i : Nat) (vJ x) = lv') (kk : mV p l e R s m args below meth c D dA A nL w cells slots Q (pc + 1) lv' st) : mV p l e R s m args below meth c D dA A nL w cells slots Q pc lv (vJ x :: st) :=
  fun H locs ls hP hS hl => lv_lstore_n X.x X.b hd rfl hl hn (lvm_set2 lv (i : Nat) (vJ x)) (fun ls' hl' => kk H locs ls' hP hS (hv ▸ hl'))
theorem mv_land (X : mX p s m args meth c own nm cc nL ret D dA A) {x y : Int64} (hd : decode cc pc = .ok (.land, 1)) (kk : mV p l e R s m args below meth c D dA A nL w cells slots Q (pc + 1) lv (vJ (x &&& y) :: st)) : mV p l e R s m args below meth c D dA A nL w cells slots Q pc lv (vJ y :: vJ x :: st) :=
  fun H locs ls hP hS hl => lv_land X.x X.b hd (kk H locs ls hP hS hl)
theorem mv_lor (X : mX p s m args meth c own nm cc nL ret D dA A) {x y : Int64} (hd : decode cc pc = .ok (.lor, 1)) (kk : mV p l e R s m args below meth c D dA A nL w cells slots Q (pc + 1) lv (vJ (x ||| y) :: st)) : mV p l e R s m args below meth c D dA A nL w cells slots Q pc lv (vJ y :: vJ x :: st) :=
  fun H locs ls hP hS hl => lv_lor X.x X.b hd (kk H locs ls hP hS hl)
theorem mv_lshr (X : mX p s m args meth c own nm cc nL ret D dA A) {x v : Int64} {y : Int32} (hd : decode cc pc = .ok (.lshr, 1)) (hv : x >>> (y.toInt64 &&& 63) = v) (kk : mV p l e R s m args below meth c D dA A nL w cells slots Q (pc + 1) lv (vJ v :: st)) : mV p l e R s m args below meth c D dA A nL w cells slots Q pc lv (vI y :: vJ x :: st) :=
  fun H locs ls hP hS hl => lv_lshr X.x X.b hd hv (kk H locs ls hP hS hl)
theorem mv_i2l (X : mX p s m args meth c own nm cc nL ret D dA A) {x : Int32} {v : Int64} (hd : decode cc pc = .ok (.i2l, 1)) (hv : x.toInt64 = v) (kk : mV p l e R s m args below meth c D dA A nL w cells slots Q (pc + 1) lv (vJ v :: st)) : mV p l e R s m args below meth c D dA A nL w cells slots Q pc lv (vI x :: st) :=
  fun H locs ls hP hS hl => lv_i2l X.x X.b hd hv (kk H locs ls hP hS hl)
theorem mv_l2i (X : mX p s m args meth c own nm cc nL ret D dA A) {x : Int64} {v : Int32} (hd : decode cc pc = .ok (.l2i, 1)) (hv : x.toInt32 = v) (kk : mV p l e R s m args below meth c D dA A nL w cells slots Q (pc + 1) lv (vI v :: st)) : mV p l e R s m args below meth c D dA A nL w cells slots Q pc lv (vJ x :: st) :=
  fun H locs ls hP hS hl => lv_l2i X.x X.b hd hv (kk H locs ls hP hS hl)
theorem mv_lcmp (X : mX p s m args meth c own nm cc nL ret D dA A) {x y : Int64} (hd : decode cc pc = .ok (.lcmp, 1)) (kk : mV p l e R s m args below meth c D dA A nL w cells slots Q (pc + 1) lv (vI (lg_cmp x y) :: st)) : mV p l e R s m args below meth c D dA A nL w cells slots Q pc lv (vJ y :: vJ x :: st) :=
  fun H locs ls hP hS hl => W.lcmp X.x X.b hd (kk H locs ls hP hS hl)
theorem mv_ldc2 (X : mX p s m args meth c own nm cc nL ret D dA A) {idx : Nat} {v : Int64} (hd : decode cc pc = .ok (.ldc2_w idx, 3)) (hc : Cond.constantLong own idx v ∈ mAll) (kk : mV p l e R s m args below meth c D dA A nL w cells slots Q (pc + 3) lv (vJ v :: st)) : mV p l e R s m args below meth c D dA A nL w cells slots Q pc lv st :=
  fun H locs ls hP hS hl => lv_ldc2 X.x X.b X.oc (X.ts _ hc) hd (kk H locs ls hP hS hl)
end MV
/-! new cells, arrays, calls, ends -/
section MV4
variable {p : Program} {l : Launch} {e : Env} {R : Room} {s : State} {m : MethodId} {args : Array Value} {below : List Frame} {meth : Method} {c : Code} {own nm : String} {cc : ByteArray} {nL : Nat} {ret : Option FieldType} {D : va_G} {dA : Nat → ClassId} {A : Nat → Prop} {w : mW} {cells slots : Nat} {Q : State → Prop} {pc : Nat} {lv : tL} {st : List tV}
def nOk (own : String) (idx c N : Nat) : Prop := ∃ (C : String) (T : u_T) (ty0 : Nat → FieldType), mTab c C T N ty0 ∧ Cond.classLink own idx C ∈ mAll ∧ Cond.instantiable C N ∈ mAll ∧ Cond.initialized C ∈ mAll
theorem mfv_nO_ne {w : mW} {q c0 c j a : Nat} (h : a ≠ q) : mfv (nO w q c0) c j a = mfv w c j a := by
  unfold mfv
  rw [gR_nO, gI_nO, if_neg h, if_neg h]
theorem mfv_nO_eq {w : mW} {q c0 c j : Nat} : mfv (nO w q c0) c j q = if fr c j = true then .null else .int 0 := by
  unfold mfv
  rw [gR_nO, gI_nO, if_pos rfl, if_pos rfl]
  rfl
theorem mav_nA_ne {w : mW} {q t n t' a : Nat} (h : a ≠ q) : mav (nA w q t n) t' a = mav w t' a := by
  funext j
  unfold mav
  rw [aR_nA, aI_nA, aJ_nA, if_neg h, if_neg h, if_neg h]
theorem mav_nA_eq {w : mW} {q t n t' : Nat} : mav (nA w q t n) t' q = fun _ => if ar t' = 1 then .null else if ar t' = 2 then .long 0 else .int 0 := by
  funext j
  unfold mav
  rw [aR_nA, aI_nA, aJ_nA, if_pos rfl, if_pos rfl, if_pos rfl]
  rfl
theorem mv_new (X : mX p s m args meth c own nm cc nL ret D dA A) {idx c0 N : Nat} (hd : decode cc pc = .ok (.new idx, 3)) (hn : nOk own idx c0 N) (hc : cells + 1 ≤ R.cells) (hs : slots + N ≤ R.slots) (kk : ∀ q, gK w q = none → mV p l e R s m args below meth c D dA A nL (nO w q c0) (cells + 1) (slots + N) Q (pc + 3) lv (vR (some q) :: st)) : mV p l e R s m args below meth c D dA A nL w cells slots Q pc lv st := by
  intro H locs ls hP hS hl
  obtain ⟨C, T, ty0, ⟨hcl, hin, hpd, hnms, hfi, hdv⟩, h1, h2, h3⟩ := hn
  have hKn := X.kn.1.1 c0 _ hcl
  refine W.newcK X.x X.b X.oc (X.ts _ h1) (X.ts _ h2) (X.ts _ h3) rfl hd hc hs hKn.2.1 rfl fun H1 kC hkC e1 z1 o1 => ?_
  refine kk H.size (hP.fresh (Nat.le_refl _)) H1 locs ls ?_ ⟨Nat.le_trans hS.1 (by omega), fun x h1 h2 => (o1 x (Nat.lt_of_lt_of_le h1 hS.1)).trans (hS.2.1 x h1 h2), hS.2.2⟩ hl
  intro a k hk
  rw [gK_nO] at hk
  by_cases h : a = H.size
  · rw [if_pos h] at hk
    cases hk
    subst h
    refine ⟨⟨_, hcl, (u_born ty0 X.ts hin hKn hkC e1 hpd).to (fun j hj => ?_)⟩, X.fresh _ hS.1⟩
    rw [mfv_nO_eq]
    exact hdv j hj
  · rw [if_neg h] at hk
    obtain ⟨g1, g2⟩ := hP a k hk
    exact ⟨g1.kept (o1 a g1.lt) (fun c j => mfv_nO_ne h) (fun t => rfl), g2⟩
theorem mRep.newA {w : mW} {H H1 : Heap} {t n : Nat} (hP : mRep D dA A w H) (hA : A H.size) (e1 : H1[H.size]? = some (arrV (dA t) n (fun _ => if ar t = 1 then .null else if ar t = 2 then .long 0 else .int 0))) (o1 : ∀ q, q < H.size → H1[q]? = H[q]?) : mRep D dA A (nA w H.size t n) H1 := by
  intro a k hk
  rw [gK_nA] at hk
  by_cases h : a = H.size
  · rw [if_pos h] at hk
    cases hk
    subst h
    refine ⟨?_, hA⟩
    show H1[H.size]? = some (arrV (dA t) n (mav (nA w H.size t n) t H.size))
    rw [mav_nA_eq]
    exact e1
  · rw [if_neg h] at hk
    obtain ⟨g1, g2⟩ := hP a k hk
    exact ⟨g1.kept (o1 a g1.lt) (fun c j => rfl) (fun t => mav_nA_ne h), g2⟩
theorem mv_anew (X : mX p s m args meth c own nm cc nL ret D dA A) {idx t : Nat} {C : String} {n : Int32} {N : Nat} (hd : decode cc pc = .ok (.anewarray idx, 3)) (hlk : Cond.classLink own idx C ∈ mAll) (hov : C ∈ mOver) (ht : tyA t = some (.object C)) (har : ar t = 1) (hn : ¬ n < 0) (hN : n.toNatClampNeg = N) (hb4 : N * 4 ≤ 536870912) (hc : cells + 1 ≤ R.cells) (hs : slots + N ≤ R.slots) (kk : ∀ q, gK w q = none → mV p l e R s m args below meth c D dA A nL (nA w q t N) (cells + 1) (slots + N) Q (pc + 3) lv (vR (some q) :: st)) : mV p l e R s m args below meth c D dA A nL w cells slots Q pc lv (vI n :: st) := by
  intro H locs ls hP hS hl
  subst hN
  refine W.anew X.x X.b X.oc (X.ts _ hlk) (X.kn.2.2.2.2.2.2 C hov).use rfl hd rfl hn hb4 hc hs fun cA kA comp h1 h2 h3 h4 => ?_
  have hRA := (X.kn.2.1 t _ ht).2
  obtain ⟨_, _, _, _, _, h5⟩ := hRA
  have hcA : cA = dA t := Option.some.inj (h1.symm.trans h5)
  subst hcA
  refine kk H.size (hP.fresh (Nat.le_refl _)) _ locs ls (hP.newA (X.fresh _ hS.1) ?_ ?_) ⟨Nat.le_trans hS.1 (by simp), fun x h1 h2 => ?_, hS.2.2⟩ hl
  · rw [har]
    show _ = some (arrV (dA t) _ (fun _ => Value.null))
    rw [← arrV_new]
    simp
  · intro q hq
    rw [Array.getElem?_push, if_neg (Nat.ne_of_lt hq)]
  · rw [Array.getElem?_push, if_neg (Nat.ne_of_lt (Nat.lt_of_lt_of_le h1 hS.1))]
    exact hS.2.1 x h1 h2
theorem mv_alen (X : mX p s m args meth c own nm cc nL ret D dA A) {t n a : Nat} {ty : FieldType} (hd : decode cc pc = .ok (.arraylength, 1)) (ht : tyA t = some ty) (ha : gK w a = some (.inr (t, n))) (kk : mV p l e R s m args below meth c D dA A nL w cells slots Q (pc + 1) lv (vI (nI n) :: st)) : mV p l e R s m args below meth c D dA A nL w cells slots Q pc lv (vR (some a) :: st) := by
  intro H locs ls hP hS hl
  obtain ⟨h1, -⟩ := hP a _ ha
  exact W.alen (n := nI n) X.x X.b h1 ((X.kn.2.1 t _ ht).1 n _) (by show (arrV _ _ _).slots.size.toInt32 = _; rw [arrV_size]; rfl) rfl rfl hd (kk H locs ls hP hS hl)
theorem mv_aald (X : mX p s m args meth c own nm cc nL ret D dA A) {t n a j : Nat} {C : String} {i : Int32} (hd : decode cc pc = .ok (.aaload, 1)) (ht : tyA t = some (.object C)) (har : ar t = 1) (ha : gK w a = some (.inr (t, n))) {x : Option Nat} (hi : i = nI j) (hj : j < n) (hn : n < 2 ^ 31) (hv : aR w a j = x) (kk : mV p l e R s m args below meth c D dA A nL w cells slots Q (pc + 1) lv (vR x :: st)) : mV p l e R s m args below meth c D dA A nL w cells slots Q pc lv (vI i :: vR (some a) :: st) := by
  intro H locs ls hP hS hl
  subst hi
  subst hv
  obtain ⟨h1, -⟩ := hP a _ ha
  refine W.aald (v := va_rf (aR w a j)) (ty := .object C) X.x X.b h1 ((X.kn.2.1 t _ ht).1 n _) rfl (fun q => by cases q) (by show ¬ (nI j < 0 ∨ (arrV _ _ _).slots.size ≤ _); rw [arrV_size]; exact nI_in hj hn) ?_ rfl rfl hd (kk H locs ls hP hS hl)
  show (arrV _ _ _).slots[_]? = _
  rw [nI_clamp (by omega), arrV_read _ _ hj]
  unfold mav
  rw [har]
  rfl
theorem mRep.setx {w w1 : mW} {H H1 : Heap} {a t n j : Nat} {v : Value} (hP : mRep D dA A w H) (hk : gK w a = some (.inr (t, n))) (e1 : H1[a]? = some ((arrV (dA t) n (mav w t a)).setSlot j v)) (e3 : ∀ q : Nat, q ≠ a → H1[q]? = H[q]?)
    (gk : gK w1 = gK w) (hf : mfv w1 = mfv w) (hne : ∀ a' t', a' ≠ a → mav w1 t' a' = mav w t' a') (heq : mav w1 t a = updV (mav w t a) j v) : mRep D dA A w1 H1 := by
  intro a' k' hk'
  rw [gk] at hk'
  by_cases h : a' = a
  · subst h
    cases hk.symm.trans hk'
    refine ⟨?_, (hP a' _ hk).2⟩
    show H1[a']? = some (arrV (dA t) n (mav w1 t a'))
    rw [heq, ← arrV_store]
    exact e1
  · obtain ⟨h1, h2⟩ := hP a' k' hk'
    exact ⟨h1.kept (e3 a' h) (fun c' j' => by rw [hf]) (fun t => hne a' t h), h2⟩
theorem mav_xR_ne {w : mW} {a i : Nat} {x : Option Nat} {a' t : Nat} (h : a' ≠ a) : mav (xR w a i x) t a' = mav w t a' := by
  funext j
  unfold mav
  rw [aI_xR, aJ_xR, aR_xR, if_neg (c := a' = a ∧ j = i) (fun q => h q.1)]
theorem mav_xI_ne {w : mW} {a i : Nat} {x : Int32} {a' t : Nat} (h : a' ≠ a) : mav (xI w a i x) t a' = mav w t a' := by
  funext j
  unfold mav
  rw [aR_xI, aJ_xI, aI_xI, if_neg (c := a' = a ∧ j = i) (fun q => h q.1)]
theorem mav_xJ_ne {w : mW} {a i : Nat} {x : Int64} {a' t : Nat} (h : a' ≠ a) : mav (xJ w a i x) t a' = mav w t a' := by
  funext j
  unfold mav
  rw [aR_xJ, aI_xJ, aJ_xJ, if_neg (c := a' = a ∧ j = i) (fun q => h q.1)]
theorem mav_xR_eq {w : mW} {a i t : Nat} {x : Option Nat} (har : ar t = 1) : mav (xR w a i x) t a = updV (mav w t a) i (va_rf x) := by
  funext j
  unfold mav updV
  rw [aR_xR, if_pos har]
  by_cases h : j = i
  · rw [if_pos h, if_pos ⟨rfl, h⟩]
  · rw [if_neg h, if_neg (fun q => h q.2)]
    dsimp only
    rw [if_pos har]
theorem mav_xI_eq {w : mW} {a i t : Nat} {x : Int32} (har : ar t = 0) : mav (xI w a i x) t a = updV (mav w t a) i (.int x) := by
  have h1 : ¬ ar t = 1 := by rw [har]; decide
  have h2 : ¬ ar t = 2 := by rw [har]; decide
  funext j
  unfold mav updV
  rw [aI_xI, if_neg h1, if_neg h2]
  by_cases h : j = i
  · rw [if_pos h, if_pos ⟨rfl, h⟩]
  · rw [if_neg h, if_neg (fun q => h q.2)]
    dsimp only
    rw [if_neg h1, if_neg h2]
theorem mav_xJ_eq {w : mW} {a i t : Nat} {x : Int64} (har : ar t = 2) : mav (xJ w a i x) t a = updV (mav w t a) i (.long x) := by
  have h1 : ¬ ar t = 1 := by rw [har]; decide
  funext j
  unfold mav updV
  rw [aJ_xJ, if_neg h1, if_pos har]
  by_cases h : j = i
  · rw [if_pos h, if_pos ⟨rfl, h⟩]
  · rw [if_neg h, if_neg (fun q => h q.2)]
    dsimp only
    rw [if_neg h1, if_pos har]
theorem mv_iald (X : mX p s m args meth c own nm cc nL ret D dA A) {t n a j : Nat} {i : Int32} {x : Int32} (hd : decode cc pc = .ok (.iaload, 1)) (ht : tyA t = some .int) (har : ar t = 0) (ha : gK w a = some (.inr (t, n))) (hi : i = nI j) (hj : j < n) (hn : n < 2 ^ 31) (hv : aI w a j = x) (kk : mV p l e R s m args below meth c D dA A nL w cells slots Q (pc + 1) lv (vI x :: st)) : mV p l e R s m args below meth c D dA A nL w cells slots Q pc lv (vI i :: vR (some a) :: st) := by
  intro H locs ls hP hS hl
  subst hi
  subst hv
  obtain ⟨h1, -⟩ := hP a _ ha
  refine W.iald (v := .int (aI w a j)) X.x X.b h1 ((X.kn.2.1 t _ ht).1 n _) (fun q => by cases q) (by show ¬ (nI j < 0 ∨ (arrV _ _ _).slots.size ≤ _); rw [arrV_size]; exact nI_in hj hn) ?_ rfl rfl hd (kk H locs ls hP hS hl)
  show (arrV _ _ _).slots[_]? = _
  rw [nI_clamp (by omega), arrV_read _ _ hj]
  unfold mav
  rw [if_neg (by rw [har]; decide), if_neg (by rw [har]; decide)]
theorem mv_iast (X : mX p s m args meth c own nm cc nL ret D dA A) {t n a j : Nat} {i : Int32} {x : Int32} (hd : decode cc pc = .ok (.iastore, 1)) (ht : tyA t = some .int) (har : ar t = 0) (ha : gK w a = some (.inr (t, n))) (hi : i = nI j) (hj : j < n) (hn : n < 2 ^ 31) (kk : mV p l e R s m args below meth c D dA A nL (xI w a j x) cells slots Q (pc + 1) lv st) : mV p l e R s m args below meth c D dA A nL w cells slots Q pc lv (vI x :: vI i :: vR (some a) :: st) := by
  intro H locs ls hP hS hl
  subst hi
  obtain ⟨h1, hAa⟩ := hP a _ ha
  have hcl : (nI j).toNatClampNeg = j := nI_clamp (by omega)
  have hin : ¬ (nI j < 0 ∨ n ≤ (nI j).toNatClampNeg) := nI_in hj hn
  refine W.iast X.x X.b h1 ((X.kn.2.1 t _ ht).1 n _) (fun h => by cases h) (by show ¬ (nI j < 0 ∨ (arrV _ _ _).slots.size ≤ _); rw [arrV_size]; exact hin) rfl rfl hd fun H1 e z oq => ?_
  rw [hcl] at e
  exact kk H1 _ ls (hP.setx ha e oq rfl rfl (fun a' t' h => mav_xI_ne h) (mav_xI_eq har)) (hS.put z oq hAa) hl
theorem mv_zald (X : mX p s m args meth c own nm cc nL ret D dA A) {t n a j : Nat} {i : Int32} {x : Int32} (hd : decode cc pc = .ok (.baload, 1)) (ht : tyA t = some .boolean) (har : ar t = 0) (ha : gK w a = some (.inr (t, n))) (hi : i = nI j) (hj : j < n) (hn : n < 2 ^ 31) (hv : aI w a j = x) (kk : mV p l e R s m args below meth c D dA A nL w cells slots Q (pc + 1) lv (vI x :: st)) : mV p l e R s m args below meth c D dA A nL w cells slots Q pc lv (vI i :: vR (some a) :: st) := by
  intro H locs ls hP hS hl
  subst hi
  subst hv
  obtain ⟨h1, -⟩ := hP a _ ha
  refine W.zald (v := .int (aI w a j)) X.x X.b h1 ((X.kn.2.1 t _ ht).1 n _) (fun q => by cases q) (by show ¬ (nI j < 0 ∨ (arrV _ _ _).slots.size ≤ _); rw [arrV_size]; exact nI_in hj hn) ?_ rfl rfl hd (kk H locs ls hP hS hl)
  show (arrV _ _ _).slots[_]? = _
  rw [nI_clamp (by omega), arrV_read _ _ hj]
  unfold mav
  rw [if_neg (by rw [har]; decide), if_neg (by rw [har]; decide)]
theorem mv_zast (X : mX p s m args meth c own nm cc nL ret D dA A) {t n a j : Nat} {i : Int32} {x : Int32} (hd : decode cc pc = .ok (.bastore, 1)) (ht : tyA t = some .boolean) (har : ar t = 0) (ha : gK w a = some (.inr (t, n))) (hi : i = nI j) (hj : j < n) (hn : n < 2 ^ 31) (hx : narrow .boolean (.int x) = .int x) (kk : mV p l e R s m args below meth c D dA A nL (xI w a j x) cells slots Q (pc + 1) lv st) : mV p l e R s m args below meth c D dA A nL w cells slots Q pc lv (vI x :: vI i :: vR (some a) :: st) := by
  intro H locs ls hP hS hl
  subst hi
  obtain ⟨h1, hAa⟩ := hP a _ ha
  have hcl : (nI j).toNatClampNeg = j := nI_clamp (by omega)
  have hin : ¬ (nI j < 0 ∨ n ≤ (nI j).toNatClampNeg) := nI_in hj hn
  refine W.zast X.x X.b h1 ((X.kn.2.1 t _ ht).1 n _) (fun h => by cases h) (by show ¬ (nI j < 0 ∨ (arrV _ _ _).slots.size ≤ _); rw [arrV_size]; exact hin) rfl rfl hd fun H1 e z oq => ?_
  rw [hcl, hx] at e
  exact kk H1 _ ls (hP.setx ha e oq rfl rfl (fun a' t' h => mav_xI_ne h) (mav_xI_eq har)) (hS.put z oq hAa) hl
theorem mv_lald (X : mX p s m args meth c own nm cc nL ret D dA A) {t n a j : Nat} {i : Int32} {x : Int64} (hd : decode cc pc = .ok (.laload, 1)) (ht : tyA t = some .long) (har : ar t = 2) (ha : gK w a = some (.inr (t, n))) (hi : i = nI j) (hj : j < n) (hn : n < 2 ^ 31) (hv : aJ w a j = x) (kk : mV p l e R s m args below meth c D dA A nL w cells slots Q (pc + 1) lv (vJ x :: st)) : mV p l e R s m args below meth c D dA A nL w cells slots Q pc lv (vI i :: vR (some a) :: st) := by
  intro H locs ls hP hS hl
  subst hi
  subst hv
  obtain ⟨h1, -⟩ := hP a _ ha
  refine W.lald (v := .long (aJ w a j)) X.x X.b h1 ((X.kn.2.1 t _ ht).1 n _) (fun q => by cases q) (by show ¬ (nI j < 0 ∨ (arrV _ _ _).slots.size ≤ _); rw [arrV_size]; exact nI_in hj hn) ?_ rfl rfl hd (kk H locs ls hP hS hl)
  show (arrV _ _ _).slots[_]? = _
  rw [nI_clamp (by omega), arrV_read _ _ hj]
  unfold mav
  rw [if_neg (by rw [har]; decide), if_pos har]
theorem mv_last (X : mX p s m args meth c own nm cc nL ret D dA A) {t n a j : Nat} {i : Int32} {x : Int64} (hd : decode cc pc = .ok (.lastore, 1)) (ht : tyA t = some .long) (har : ar t = 2) (ha : gK w a = some (.inr (t, n))) (hi : i = nI j) (hj : j < n) (hn : n < 2 ^ 31) (kk : mV p l e R s m args below meth c D dA A nL (xJ w a j x) cells slots Q (pc + 1) lv st) : mV p l e R s m args below meth c D dA A nL w cells slots Q pc lv (vJ x :: vI i :: vR (some a) :: st) := by
  intro H locs ls hP hS hl
  subst hi
  obtain ⟨h1, hAa⟩ := hP a _ ha
  have hcl : (nI j).toNatClampNeg = j := nI_clamp (by omega)
  have hin : ¬ (nI j < 0 ∨ n ≤ (nI j).toNatClampNeg) := nI_in hj hn
  refine W.last X.x X.b h1 ((X.kn.2.1 t _ ht).1 n _) (fun h => by cases h) (by show ¬ (nI j < 0 ∨ (arrV _ _ _).slots.size ≤ _); rw [arrV_size]; exact hin) rfl rfl hd fun H1 e z oq => ?_
  rw [hcl] at e
  exact kk H1 _ ls (hP.setx ha e oq rfl rfl (fun a' t' h => mav_xJ_ne h) (mav_xJ_eq har)) (hS.put z oq hAa) hl
theorem mv_newa (X : mX p s m args meth c own nm cc nL ret D dA A) {t N : Nat} {atype : ArrayType} {n : Int32} (hd : decode cc pc = .ok (.newarray atype, 2)) (hw : Cond.arrayClass (newarray.typeOf atype) ∈ mAll) (ht : tyA t = some (newarray.typeOf atype)) (hRA : ∀ U c, va_RA U c (newarray.typeOf atype) → U.vm.findClass ("[" ++ (newarray.typeOf atype).toString) = some c) (hdf : defaultValue (newarray.typeOf atype) = if ar t = 1 then .null else if ar t = 2 then .long 0 else .int 0) (hn : ¬ n < 0) (hN : n.toNatClampNeg = N) (hb8 : N * componentBytes (newarray.typeOf atype) ≤ 536870912) (hc : cells + 1 ≤ R.cells) (hs : slots + N ≤ R.slots) (kk : ∀ q, gK w q = none → mV p l e R s m args below meth c D dA A nL (nA w q t N) (cells + 1) (slots + N) Q (pc + 2) lv (vR (some q) :: st)) : mV p l e R s m args below meth c D dA A nL w cells slots Q pc lv (vI n :: st) := by
  intro H locs ls hP hS hl
  subst hN
  refine W.newa X.x X.b (X.ts _ hw) rfl hd rfl hn hb8 hc hs fun cA kA comp h1 h2 h3 => ?_
  have h5 := hRA s _ (X.kn.2.1 t _ ht).2
  have hcA : cA = dA t := Option.some.inj (h1.symm.trans h5)
  subst hcA
  refine kk H.size (hP.fresh (Nat.le_refl _)) _ locs ls (hP.newA (X.fresh _ hS.1) ?_ ?_) ⟨Nat.le_trans hS.1 (by simp), fun x h1 h2 => ?_, hS.2.2⟩ hl
  · rw [← hdf, ← arrV_new]
    simp
  · intro q hq
    rw [Array.getElem?_push, if_neg (Nat.ne_of_lt hq)]
  · rw [Array.getElem?_push, if_neg (Nat.ne_of_lt (Nat.lt_of_lt_of_le h1 hS.1))]
    exact hS.2.1 x h1 h2
/-- a class number, with its name and the word that its objects may lie in an array of E -/
def mCa (cs : List Nat) (E : String) : Prop := ∀ c ∈ cs, ∃ r : vw_C, vwCl[c]? = some r ∧ (r.1, E) ∈ mCast
theorem mv_aast (X : mX p s m args meth c own nm cc nL ret D dA A) {t n a j : Nat} {E : String} {cs : List Nat} {i : Int32} {x : Option Nat} (hd : decode cc pc = .ok (.aastore, 1)) (ht : tyA t = some (.object E)) (har : ar t = 1) (ha : gK w a = some (.inr (t, n))) (hi : i = nI j) (hj : j < n) (hn : n < 2 ^ 31) (hca : mCa cs E) (hx : ∀ b, x = some b → mIs w cs b) (kk : mV p l e R s m args below meth c D dA A nL (xR w a j x) cells slots Q (pc + 1) lv st) : mV p l e R s m args below meth c D dA A nL w cells slots Q pc lv (vR x :: vI i :: vR (some a) :: st) := by
  intro H locs ls hP hS hl
  subst hi
  obtain ⟨h1, hAa⟩ := hP a _ ha
  have hcl : (nI j).toNatClampNeg = j := nI_clamp (by omega)
  have hin : ¬ (nI j < 0 ∨ n ≤ (nI j).toNatClampNeg) := nI_in hj hn
  cases x with
  | none =>
    refine va_WaastN (C := E) X.x X.b h1 ((X.kn.2.1 t _ ht).1 n _) (fun h => by cases h) (by show ¬ (nI j < 0 ∨ (arrV _ _ _).slots.size ≤ _); rw [arrV_size]; exact hin) rfl rfl hd fun H1 e z oq => ?_
    rw [hcl] at e
    exact kk H1 _ ls (hP.setx ha e oq rfl rfl (fun a' t' h => mav_xR_ne h) (mav_xR_eq har)) (hS.put z oq hAa) hl
  | some b =>
    obtain ⟨c0, hc0, hk⟩ := hx b rfl
    obtain ⟨r, hr, hcs⟩ := hca c0 hc0
    obtain ⟨⟨r', hr', cellV, g1, g2, g3, -⟩, -⟩ := hP b _ hk
    cases hr.symm.trans hr'
    have hcls := (X.kn.1.1 c0 r hr).2
    obtain ⟨kA, comp, k1, k2, k3, -⟩ := (X.kn.2.1 t _ ht).2
    obtain ⟨cv, tv', f1, f2, f3⟩ := Cond.castable_spec (va_Nw.use (A := args) rfl (X.kn.2.2.1 _ hcs))
    cases k3.symm.trans f2
    cases hcls.1.symm.trans f1
    obtain ⟨kC, hkC, -⟩ := hcls.2
    obtain ⟨kcomp, hkcomp, -⟩ := Vm.findClass_spec k3
    refine W.aast X.x X.b h1 (fun q h => by cases h) (fun h => by cases h) k1 k2 rfl hkcomp ⟨nI_pos (by omega), by show _ < (arrV _ _ _).slots.size; rw [arrV_size, hcl]; exact hj⟩ g1 (fun q h => by rw [g3] at h; cases h) (by rw [g2]; exact hkC) (by rw [g2]; exact f3) rfl rfl hd fun H1 e z oq => ?_
    rw [hcl] at e
    exact kk H1 _ ls (hP.setx ha e oq rfl rfl (fun a' t' h => mav_xR_ne h) (mav_xR_eq har)) (hS.put z oq hAa) hl
theorem mRep.recv {w : mW} {H : Heap} {a c0 : Nat} {r : vw_C} {U : State} (hK : mKn D dA U) (hP : mRep D dA A w H) (hk : gK w a = some (.inl c0)) (hr : vwCl[c0]? = some r) : ∃ cell : Cell, H[a]? = some cell ∧ cell.vm.isStatics = false ∧ U.vm.findClass r.1 = some cell.cls := by
  obtain ⟨⟨r', h1, cell, g1, g2, g3, -⟩, -⟩ := hP a _ hk
  cases hr.symm.trans h1
  exact ⟨cell, g1, by rw [g3]; rfl, by rw [g2]; exact (hK.1.1 c0 r hr).2.1⟩
/-- instanceof, checkcast: cy the classes that pass, cn those that do not -/
def mNc (cs : List Nat) (E : String) : Prop := ∀ c ∈ cs, ∃ r : vw_C, vwCl[c]? = some r ∧ (r.1, E) ∈ mNoCast
theorem mv_inst (X : mX p s m args meth c own nm cc nL ret D dA A) {idx : Nat} {E : String} {cy cn : List Nat} {x : Option Nat} (hd : decode cc pc = .ok (.instanceof idx, 3)) (hlk : Cond.classLink own idx E ∈ mAll) (hy : mCa cy E) (hn : mNc cn E) (hx : ∀ b, x = some b → mIs w cy b ∨ mIs w cn b) (kt : ∀ b, x = some b → mIs w cy b → mV p l e R s m args below meth c D dA A nL w cells slots Q (pc + 3) lv (vI 1 :: st)) (kf : (∀ b, x = some b → mIs w cn b) → mV p l e R s m args below meth c D dA A nL w cells slots Q (pc + 3) lv (vI 0 :: st)) : mV p l e R s m args below meth c D dA A nL w cells slots Q pc lv (vR x :: st) := by
  intro H locs ls hP hS hl
  cases x with
  | none => exact lv_instN X.x X.b hd (kf (fun b h => by cases h) H locs ls hP hS hl)
  | some b =>
    rcases hx b rfl with h | h
    · obtain ⟨c0, hc0, hk⟩ := id h
      obtain ⟨r, hr, hcs⟩ := hy c0 hc0
      exact va_instY X.x X.b X.oc (X.ts _ hlk) (X.kn.2.2.1 _ hcs) (hP.recv X.kn hk hr) hd (kt b rfl h H locs ls hP hS hl)
    · obtain ⟨c0, hc0, hk⟩ := id h
      obtain ⟨r, hr, hcs⟩ := hn c0 hc0
      exact va_instNo X.x X.b X.oc (X.ts _ hlk) (X.kn.2.2.2.1 _ hcs) (hP.recv X.kn hk hr) hd (kf (fun b' e => by cases e; exact h) H locs ls hP hS hl)
theorem mv_cast (X : mX p s m args meth c own nm cc nL ret D dA A) {idx : Nat} {E : String} {cy : List Nat} {x : Option Nat} (hd : decode cc pc = .ok (.checkcast idx, 3)) (hlk : Cond.classLink own idx E ∈ mAll) (hy : mCa cy E) (hx : ∀ b, x = some b → mIs w cy b) (kk : mV p l e R s m args below meth c D dA A nL w cells slots Q (pc + 3) lv (vR x :: st)) : mV p l e R s m args below meth c D dA A nL w cells slots Q pc lv (vR x :: st) := by
  intro H locs ls hP hS hl
  cases x with
  | none => exact lv_castN X.x X.b hd (kk H locs ls hP hS hl)
  | some b =>
    obtain ⟨c0, hc0, hk⟩ := hx b rfl
    obtain ⟨r, hr, hcs⟩ := hy c0 hc0
    exact va_castY X.x X.b X.oc (X.ts _ hlk) (X.kn.2.2.1 _ hcs) (hP.recv X.kn hk hr) hd (kk H locs ls hP hS hl)
/-! contracts -/
def mRm (d mc ms : Nat) : Room := { frames := d, cells := mc, slots := ms, locals := 40 * d }
def mPc (D : va_G) (dA : Nat → ClassId) (A : Nat → Prop) (w : mW) (U : State) : Prop := mRep D dA A w U.heap ∧ mKn D dA U ∧ ∀ q, U.heap.size ≤ q → A q
def mQ (D : va_G) (dA : Nat → ClassId) (A : Nat → Prop) (Post : Option tV → mW → Prop) : Array Value → State → Outcome → State → Prop := fun _ s0 o t => (∃ (v : Option tV) (w' : mW), o = .returned (v.map tv) ∧ Post v w' ∧ mRep D dA A w' t.heap) ∧ va_F A s0 t
def mMet (l : Launch) (y : MethodName) (cc : ByteArray) (nL : Nat) (ret : Option FieldType) (d mc ms : Nat) (av : List tV) (w : mW) (Post : Option tV → mW → Prop) : Prop :=
  ∀ (D : va_G) (dA : Nat → ClassId) (A : Nat → Prop), Met l y (Cond.code y cc nL ret :: mAll) (mRm d mc ms) (va_Pc (av.map tv) (mPc D dA A w)) (mQ D dA A Post) mc ms A
theorem mMet.of {y : MethodName} {d mc ms : Nat} {av : List tV} {w : mW} {Post : Option tV → mW → Prop} (hy : plainName y.cls = true) (hlen : tsm av ≤ nL)
    (body : ∀ (p : Program) (e : Env) (s : State) (m : MethodId) (args : Array Value) (below : List Frame) (meth : Method) (c : Code) (D : va_G) (dA : Nat → ClassId) (A : Nat → Prop), mX p s m args meth c y.cls y.name cc nL ret D dA A → mV p l e (mRm d mc ms) s m args below meth c D dA A nL w 0 0 (MQ below (mQ D dA A Post) args s mc ms A) 0 (targs 0 av) []) : mMet l y cc nL ret d mc ms av w Post := by
  intro D dA A
  refine Met.ofW (cc := cc) (maxL := nL) (ret := ret) hy rfl ?_
  intro p e s m args below meth c s₁ B hml hv
  obtain ⟨rfl, hP, hK, hA⟩ := hv
  have hts := atoms_spec (ws := Cond.code y cc nL ret :: mAll) B.pre
  have X : mX p s m (av.map tv).toArray meth c y.cls y.name cc nL ret D dA A := ⟨B.exec, B.bytes, hml, findClass_of_methodNamed B.named, fun w h => hts w (List.mem_cons_of_mem _ h), hK, hA, B.returns, B.notSynchronized, (name_of_methodNamed B.named B.method).1⟩
  rw [lg_entry_eq]
  have hl := lv_entry (av.map tv) (n := nL) (by rw [tv_sl]; exact hlen)
  rw [targs_lv] at hl
  exact body p e s m _ below meth c D dA A X s.heap [] _ hP va_S.rf hl
theorem mPc.blind {av : List Value} {w : mW} : FrameBlind (va_Pc av (mPc D dA A w)) := fun a U g mk h => ⟨h.1, h.2.1, h.2.2.1.same rfl, h.2.2.2⟩
theorem mPc.pre (X : mX p s m args meth c own nm cc nL ret D dA A) {H : Heap} {locs : List Loc} {av : List Value} (hP : mRep D dA A w H) (hS : va_S A s.heap H locs) : ∀ U : State, U.heap = H → s.WarmedH U.vm → va_Pc av (mPc D dA A w) av.toArray U := fun U hU hW => ⟨rfl, by rw [hU]; exact hP, X.kn.warm hW, fun q h => X.fresh q (Nat.le_trans hS.1 (by rw [← hU]; exact h))⟩
theorem mv_ret_i (X : mX p s m args meth c own nm cc nL ret D dA A) {Post : Option tV → mW → Prop} {mc ms : Nat} {x : Int32} {ty : FieldType} (hd : decode cc pc = .ok (.ireturn, 1)) (hr : ret = some ty) (hn : narrow ty (.int x) = .int x) (h1 : cells ≤ mc) (h2 : slots ≤ ms) (hp : Post (some (vI x)) w) : mV p l e R s m args below meth c D dA A nL w cells slots (MQ below (mQ D dA A Post) args s mc ms A) pc lv [vI x] := by
  intro H locs ls hP hS hl
  refine W.widen h1 h2 ?_
  exact W.zret X.x X.b (X.rt.trans hr) hn (fun t ht hW => ⟨⟨some (vI x), w, rfl, hp, by rw [ht]; exact hP⟩, hS.F ht⟩) hS.2.2 hd X.lk
theorem mv_ret_r (X : mX p s m args meth c own nm cc nL ret D dA A) {Post : Option tV → mW → Prop} {mc ms : Nat} {x : Option Nat} {C : String} (hd : decode cc pc = .ok (.areturn, 1)) (hr : ret = some (.object C)) (h1 : cells ≤ mc) (h2 : slots ≤ ms) (hp : Post (some (vR x)) w) : mV p l e R s m args below meth c D dA A nL w cells slots (MQ below (mQ D dA A Post) args s mc ms A) pc lv [vR x] := by
  intro H locs ls hP hS hl
  refine W.widen h1 h2 ?_
  exact W.aret (v := va_rf x) X.x X.b (X.rt.trans hr) (Or.inl ⟨C, rfl⟩) (by cases x with | none => exact Or.inl rfl | some a => exact Or.inr ⟨a, rfl⟩) (fun t ht hW => ⟨⟨some (vR x), w, rfl, hp, by rw [ht]; exact hP⟩, hS.F ht⟩) hS.2.2 hd X.lk
theorem mv_ret_j (X : mX p s m args meth c own nm cc nL ret D dA A) {Post : Option tV → mW → Prop} {mc ms : Nat} {x : Int64} (hd : decode cc pc = .ok (.lreturn, 1)) (hr : ret = some .long) (h1 : cells ≤ mc) (h2 : slots ≤ ms) (hp : Post (some (vJ x)) w) : mV p l e R s m args below meth c D dA A nL w cells slots (MQ below (mQ D dA A Post) args s mc ms A) pc lv [vJ x] := by
  intro H locs ls hP hS hl
  refine W.widen h1 h2 ?_
  exact W.lret X.x X.b (X.rt.trans hr) (fun t ht hW => ⟨⟨some (vJ x), w, rfl, hp, by rw [ht]; exact hP⟩, hS.F ht⟩) hS.2.2 hd X.lk
theorem mv_ret_v (X : mX p s m args meth c own nm cc nL ret D dA A) {Post : Option tV → mW → Prop} {mc ms : Nat} (hd : decode cc pc = .ok (.return_, 1)) (hr : ret = none) (h1 : cells ≤ mc) (h2 : slots ≤ ms) (hp : Post none w) : mV p l e R s m args below meth c D dA A nL w cells slots (MQ below (mQ D dA A Post) args s mc ms A) pc lv [] := by
  intro H locs ls hP hS hl
  refine W.widen h1 h2 ?_
  exact W.vret X.x X.b (X.rt.trans hr) (fun t ht hW => ⟨⟨none, w, rfl, hp, by rw [ht]; exact hP⟩, hS.F ht⟩) hS.2.2 hd X.lk
/-- behind a call -/
theorem m_after {Post : Option tV → mW → Prop} {mc ms : Nat} {rest : List tV} {av : Array Value} {H : Heap} {locs : List Loc} {ls : Array Slot} {st0 : List Value} (hr : va_Run p l e R s m args below meth c H locs cells slots mc ms (F0 m pc ls st0) (rest.map tv) (mQ D dA A Post av) A) (hS : va_S A s.heap H locs) (hl : lv_has ls nL (lvm lv))
    (kk : ∀ v w', Post v w' → mV p l e R s m args below meth c D dA A nL w' (cells + mc) (slots + ms) Q (pc + 3) lv (v.toList ++ rest)) : W p l e R s m args below meth c H locs cells slots Q (F0 m pc ls st0) := by
  intro T hT XT
  obtain ⟨v, st₀, t, T', L, h0, X', hL, e1, e2, ⟨⟨v', w', hv, hp, hP'⟩, hz, hk⟩, stp⟩ := hr T hT XT
  cases hv
  rw [h0] at hz hk
  obtain ⟨t2, a1, b1⟩ := kk v' w' hp T'.heap (locs ++ L) ls (by rw [e1]; exact hP')
    ⟨Nat.le_trans hS.1 (by rw [e1]; exact hz), fun q h1 h2 => by rw [e1, hk q (Nat.lt_of_lt_of_le h1 hS.1) h2]; exact hS.2.1 q h1 h2, fun q hq => by
      rcases List.mem_append.mp hq with h | h
      · exact hS.2.2 q h
      · exact hL q h⟩ hl T' rfl X'
  have e9 : (v'.toList ++ rest).map tv = (v'.map tv).toList ++ rest.map tv := by cases v' <;> simp
  rw [e9] at a1
  exact ⟨t2, stp t2 a1, b1⟩
theorem m_good {y : MethodName} {cc' : ByteArray} {nL' : Nat} {ret' : Option FieldType} (h : Cond.code y cc' nL' ret' ∈ mAll) : GoodIn mAll (Cond.code y cc' nL' ret' :: mAll) := fun w hw => by
  rcases List.mem_cons.mp hw with rfl | hw
  · exact mAll_good _ h
  · exact mAll_good _ hw
def cNm (y : MethodName) (n : Nat) : Prop := y.cls ≠ "java/lang/invoke/MethodHandle" ∧ y.cls ≠ "java/lang/invoke/VarHandle" ∧ (parseMethodDescriptor y.desc).map (fun d => d.parameters.length) = some n
/-- places of calls -/
def cS (own : String) (idx : Nat) (y : MethodName) (cc' : ByteArray) (nL' : Nat) (ret' : Option FieldType) (n : Nat) : Prop := Cond.methodLink own idx y ∈ mAll ∧ Cond.static y ∈ mAll ∧ Cond.initialized y.cls ∈ mAll ∧ Cond.code y cc' nL' ret' ∈ mAll ∧ cNm y n
def cI (own : String) (idx : Nat) (y : MethodName) (cc' : ByteArray) (nL' n : Nat) : Prop := Cond.methodLink own idx y ∈ mAll ∧ Cond.instanceMethod y ∈ mAll ∧ Cond.initialized y.cls ∈ mAll ∧ Cond.code y cc' nL' none ∈ mAll ∧ cNm y n ∧ y.name = "<init>"
def cV (own : String) (idx c0 : Nat) (y : MethodName) (cc' : ByteArray) (nL' : Nat) (ret' : Option FieldType) (n : Nat) : Prop := Cond.methodLink own idx y ∈ mAll ∧ Cond.instanceMethod y ∈ mAll ∧ Cond.initialized y.cls ∈ mAll ∧ Cond.code y cc' nL' ret' ∈ mAll ∧ cNm y n ∧ ∃ r : vw_C, vwCl[c0]? = some r ∧ Cond.selects r.1 y y ∈ mAll
def cSN (own : String) (idx : Nat) (y : MethodName) (host : String) (cc' : ByteArray) (nL' : Nat) (ret' : Option FieldType) (n : Nat) : Prop := (own, idx, y, host) ∈ mNestM ∧ Cond.static y ∈ mAll ∧ Cond.initialized y.cls ∈ mAll ∧ Cond.code y cc' nL' ret' ∈ mAll ∧ cNm y n
def cIN (own : String) (idx : Nat) (y : MethodName) (host : String) (cc' : ByteArray) (nL' n : Nat) : Prop := (own, idx, y, host) ∈ mNestM ∧ Cond.instanceMethod y ∈ mAll ∧ Cond.initialized y.cls ∈ mAll ∧ Cond.code y cc' nL' none ∈ mAll ∧ cNm y n ∧ y.name = "<init>"
/-- x is named, y is selected -/
def cU (own : String) (idx c0 : Nat) (owner : String) (x y : MethodName) (cc' : ByteArray) (nL' : Nat) (ret' : Option FieldType) (n : Nat) : Prop := Cond.methodLink own idx x ∈ mAll ∧ Cond.sameMethod x.cls owner x.name x.desc ∈ mAll ∧ Cond.instanceMethod y ∈ mAll ∧ Cond.initialized y.cls ∈ mAll ∧ Cond.code y cc' nL' ret' ∈ mAll ∧ (owner ≠ "java/lang/invoke/MethodHandle" ∧ owner ≠ "java/lang/invoke/VarHandle" ∧ (parseMethodDescriptor x.desc).map (fun d => d.parameters.length) = some n) ∧ (∃ r : vw_C, vwCl[c0]? = some r ∧ Cond.selects r.1 x y ∈ mAll) ∧ ((⟨owner, x.name, x.desc⟩ : MethodName) ∈ mDecl ∨ (Cond.instanceMethod ⟨owner, x.name, x.desc⟩ ∈ mAll ∧ ∃ b n r, Cond.code ⟨owner, x.name, x.desc⟩ b n r ∈ mAll))
theorem m_sum {m : MethodId} {pc : Nat} {ls : Array Slot} {st0 : List Value} {rest : List tV} (h : tsm rest ≤ 8) : 2 * (F0 m pc ls st0).monitorRoom + ((rest.map tv).map fun v => v.category).sum ≤ 8 := lv_room (by rw [tv_sum]; exact h)
theorem mv_calls (X : mX p s m args meth c own nm cc nL ret D dA A) {y : MethodName} {cc' : ByteArray} {nL' : Nat} {ret' : Option FieldType} {d' mc' ms' : Nat} {Post : Option tV → mW → Prop} {idx : Nat} (As rest : List tV) (hM : mMet l y cc' nL' ret' d' mc' ms' As w Post) (hd : decode cc pc = .ok (.invokestatic idx, 3)) (hc : cS own idx y cc' nL' ret' As.length) (hR : d' + 1 ≤ R.frames ∧ 8 + (nL' + 11) + 40 * d' ≤ R.locals) (hcs : cells + mc' ≤ R.cells ∧ slots + ms' ≤ R.slots) (hst : st = As.reverse ++ rest) (hr : tsm rest ≤ 8) (kk : ∀ v w', Post v w' → mV p l e R s m args below meth c D dA A nL w' (cells + mc') (slots + ms') Q (pc + 3) lv (v.toList ++ rest)) : mV p l e R s m args below meth c D dA A nL w cells slots Q pc lv st := by
  intro H locs ls hP hS hl
  obtain ⟨k1, k2, k3, k4, k5⟩ := hc
  refine m_after (va_runS (rest := rest.map tv) (As := As.map tv) (g := F0 m pc ls (st.map tv)) ⟨X.x, X.b, X.ml, X.oc, X.ts⟩ (hM D dA A) ⟨callB_of As.length X.ts (m_good k4) rfl rfl rfl (X.ts _ k3) (X.ts _ k1) k5 hR, X.ts _ k2⟩ ⟨mPc.blind, mPc.pre X hP hS⟩ rfl (by simp) hl.1 ?_ (m_sum hr) hd hcs) hS hl kk
  show st.map tv = _
  rw [hst]
  simp
theorem mv_callsn (X : mX p s m args meth c own nm cc nL ret D dA A) {y : MethodName} {cc' : ByteArray} {nL' : Nat} {ret' : Option FieldType} {d' mc' ms' : Nat} {Post : Option tV → mW → Prop} {idx : Nat} {host : String} (As rest : List tV) (hM : mMet l y cc' nL' ret' d' mc' ms' As w Post) (hd : decode cc pc = .ok (.invokestatic idx, 3)) (hc : cSN own idx y host cc' nL' ret' As.length) (hR : d' + 1 ≤ R.frames ∧ 8 + (nL' + 11) + 40 * d' ≤ R.locals) (hcs : cells + mc' ≤ R.cells ∧ slots + ms' ≤ R.slots) (hst : st = As.reverse ++ rest) (hr : tsm rest ≤ 8) (kk : ∀ v w', Post v w' → mV p l e R s m args below meth c D dA A nL w' (cells + mc') (slots + ms') Q (pc + 3) lv (v.toList ++ rest)) : mV p l e R s m args below meth c D dA A nL w cells slots Q pc lv st := by
  intro H locs ls hP hS hl
  obtain ⟨k1, k2, k3, k4, k5⟩ := hc
  refine m_after (va_runSN (rest := rest.map tv) (As := As.map tv) (g := F0 m pc ls (st.map tv)) ⟨X.x, X.b, X.ml, X.oc, X.ts⟩ (hM D dA A) ⟨va_cnB As.length X.ts (m_good k4) rfl rfl rfl (X.kn.2.2.2.2.2.1 _ k1) (X.ts _ k3) k5 hR, X.ts _ k2, trivial⟩ ⟨mPc.blind, mPc.pre X hP hS⟩ rfl (by simp) hl.1 ?_ (m_sum hr) hd hcs) hS hl kk
  show st.map tv = _
  rw [hst]
  simp
theorem mv_calli (X : mX p s m args meth c own nm cc nL ret D dA A) {y : MethodName} {cc' : ByteArray} {nL' : Nat} {d' mc' ms' : Nat} {Post : Option tV → mW → Prop} {idx b : Nat} (As rest : List tV) (hM : mMet l y cc' nL' none d' mc' ms' (vR (some b) :: As) w Post) (hd : decode cc pc = .ok (.invokespecial idx, 3)) (hc : cI own idx y cc' nL' As.length) (hR : d' + 1 ≤ R.frames ∧ 8 + (nL' + 11) + 40 * d' ≤ R.locals) (hcs : cells + mc' ≤ R.cells ∧ slots + ms' ≤ R.slots) (hst : st = As.reverse ++ vR (some b) :: rest) (hr : tsm rest ≤ 8) (kk : ∀ v w', Post v w' → mV p l e R s m args below meth c D dA A nL w' (cells + mc') (slots + ms') Q (pc + 3) lv (v.toList ++ rest)) : mV p l e R s m args below meth c D dA A nL w cells slots Q pc lv st := by
  intro H locs ls hP hS hl
  obtain ⟨k1, k2, k3, k4, k5, k6⟩ := hc
  refine m_after (va_runI (b := b) (rest := rest.map tv) (As := As.map tv) (g := F0 m pc ls (st.map tv)) ⟨X.x, X.b, X.ml, X.oc, X.ts⟩ (hM D dA A) (cwI As.length X.ts (m_good k4) rfl rfl rfl (X.ts _ k3) (X.ts _ k1) (X.ts _ k2) k6 k5 hR) ⟨mPc.blind, mPc.pre X hP hS⟩ rfl (by simp) hl.1 ?_ (m_sum hr) hd hcs) hS hl kk
  show st.map tv = _
  rw [hst]
  simp [tv, va_rf]
theorem mv_callin (X : mX p s m args meth c own nm cc nL ret D dA A) {y : MethodName} {cc' : ByteArray} {nL' : Nat} {d' mc' ms' : Nat} {Post : Option tV → mW → Prop} {idx b : Nat} {host : String} (As rest : List tV) (hM : mMet l y cc' nL' none d' mc' ms' (vR (some b) :: As) w Post) (hd : decode cc pc = .ok (.invokespecial idx, 3)) (hc : cIN own idx y host cc' nL' As.length) (hR : d' + 1 ≤ R.frames ∧ 8 + (nL' + 11) + 40 * d' ≤ R.locals) (hcs : cells + mc' ≤ R.cells ∧ slots + ms' ≤ R.slots) (hst : st = As.reverse ++ vR (some b) :: rest) (hr : tsm rest ≤ 8) (kk : ∀ v w', Post v w' → mV p l e R s m args below meth c D dA A nL w' (cells + mc') (slots + ms') Q (pc + 3) lv (v.toList ++ rest)) : mV p l e R s m args below meth c D dA A nL w cells slots Q pc lv st := by
  intro H locs ls hP hS hl
  obtain ⟨k1, k2, k3, k4, k5, k6⟩ := hc
  refine m_after (va_runIN (b := b) (rest := rest.map tv) (As := As.map tv) (g := F0 m pc ls (st.map tv)) ⟨X.x, X.b, X.ml, X.oc, X.ts⟩ (hM D dA A) ⟨va_cnB As.length X.ts (m_good k4) rfl rfl rfl (X.kn.2.2.2.2.2.1 _ k1) (X.ts _ k3) k5 hR, k6, X.ts _ k2⟩ ⟨mPc.blind, mPc.pre X hP hS⟩ rfl (by simp) hl.1 ?_ (m_sum hr) hd hcs) hS hl kk
  show st.map tv = _
  rw [hst]
  simp [tv, va_rf]
theorem mv_callv (X : mX p s m args meth c own nm cc nL ret D dA A) {y : MethodName} {cc' : ByteArray} {nL' : Nat} {ret' : Option FieldType} {d' mc' ms' : Nat} {Post : Option tV → mW → Prop} {idx c0 b : Nat} (As rest : List tV) (hM : mMet l y cc' nL' ret' d' mc' ms' (vR (some b) :: As) w Post) (hd : decode cc pc = .ok (.invokevirtual idx, 3)) (hc : cV own idx c0 y cc' nL' ret' As.length) (hb : gK w b = some (.inl c0)) (hR : d' + 1 ≤ R.frames ∧ 8 + (nL' + 11) + 40 * d' ≤ R.locals) (hcs : cells + mc' ≤ R.cells ∧ slots + ms' ≤ R.slots) (hst : st = As.reverse ++ vR (some b) :: rest) (hr : tsm rest ≤ 8) (kk : ∀ v w', Post v w' → mV p l e R s m args below meth c D dA A nL w' (cells + mc') (slots + ms') Q (pc + 3) lv (v.toList ++ rest)) : mV p l e R s m args below meth c D dA A nL w cells slots Q pc lv st := by
  intro H locs ls hP hS hl
  obtain ⟨k1, k2, k3, k4, k5, r, k6, k7⟩ := hc
  refine m_after (va_runV (C := r.1) (b := b) (rest := rest.map tv) (As := As.map tv) (g := F0 m pc ls (st.map tv)) ⟨X.x, X.b, X.ml, X.oc, X.ts⟩ (hM D dA A) ⟨callB_of As.length X.ts (m_good k4) rfl rfl rfl (X.ts _ k3) (X.ts _ k1) k5 hR, X.ts _ k2, X.ts _ k7⟩ ⟨mPc.blind, hP.recv X.kn hb k6, mPc.pre X hP hS⟩ rfl (by simp) hl.1 ?_ (m_sum hr) hd hcs) hS hl kk
  show st.map tv = _
  rw [hst]
  simp [tv, va_rf]
theorem mv_callu (X : mX p s m args meth c own nm cc nL ret D dA A) {y : MethodName} {cc' : ByteArray} {nL' : Nat} {ret' : Option FieldType} {d' mc' ms' : Nat} {Post : Option tV → mW → Prop} {idx c0 b : Nat} {owner : String} {x : MethodName} (As rest : List tV) (hM : mMet l y cc' nL' ret' d' mc' ms' (vR (some b) :: As) w Post) (hd : decode cc pc = .ok (.invokevirtual idx, 3)) (hc : cU own idx c0 owner x y cc' nL' ret' As.length) (hb : gK w b = some (.inl c0)) (hR : d' + 1 ≤ R.frames ∧ 8 + (nL' + 11) + 40 * d' ≤ R.locals) (hcs : cells + mc' ≤ R.cells ∧ slots + ms' ≤ R.slots) (hst : st = As.reverse ++ vR (some b) :: rest) (hr : tsm rest ≤ 8) (kk : ∀ v w', Post v w' → mV p l e R s m args below meth c D dA A nL w' (cells + mc') (slots + ms') Q (pc + 3) lv (v.toList ++ rest)) : mV p l e R s m args below meth c D dA A nL w cells slots Q pc lv st := by
  intro H locs ls hP hS hl
  obtain ⟨k1, k2, k3, k4, k5, k6, ⟨r, k7, k8⟩, k9⟩ := hc
  have hdl : va_Decl s ⟨owner, x.name, x.desc⟩ := by
    rcases k9 with h | ⟨h1, b0, n0, r0, h2⟩
    · exact va_Decl.abs (X.kn.2.2.2.2.1 _ h)
    · exact va_Decl.of (X.ts _ h1) (X.ts _ h2)
  have hG := m_good k5
  have hcu : va_CU R s args own r.1 owner idx x y cc' nL' ret' (Cond.code y cc' nL' ret' :: mAll) (mRm d' mc' ms') mc' ms' As.length := by
    refine ⟨⟨rfl, rfl, hR.1, hR.2, pay_in X.ts hG, List.mem_cons_self⟩, X.ts _ k5, X.ts _ k4, ⟨k6.1, k6.2.1⟩, fun sig h => ?_, X.ts _ k1, X.ts _ k2, hdl, X.ts _ k8, X.ts _ k3⟩
    have h2 := k6.2.2
    rw [h] at h2
    exact (Option.some.inj h2).symm
  refine m_after (va_runU (C := r.1) (b := b) (rest := rest.map tv) (As := As.map tv) (g := F0 m pc ls (st.map tv)) ⟨X.x, X.b, X.ml, X.oc, X.ts⟩ (hM D dA A) hcu ⟨mPc.blind, hP.recv X.kn hb k7, mPc.pre X hP hS⟩ rfl (by simp) hl.1 ?_ (m_sum hr) hd hcs) hS hl kk
  show st.map tv = _
  rw [hst]
  simp [tv, va_rf]
theorem mv_obj (X : mX p s m args meth c own nm cc nL ret D dA A) {idx : Nat} {b : Nat} (hd : decode cc pc = .ok (.invokespecial idx, 3)) (h1 : Cond.methodLink own idx objectInit ∈ mAll) (h2 : Cond.instanceMethod objectInit ∈ mAll) (h3 : Cond.code objectInit ⟨#[0xb1]⟩ 1 none ∈ mAll) (hf : 1 ≤ R.frames) (hlo : tsm st + 12 ≤ R.locals) (kk : mV p l e R s m args below meth c D dA A nL w cells slots Q (pc + 3) lv st) : mV p l e R s m args below meth c D dA A nL w cells slots Q pc lv (vR (some b) :: st) := by
  intro H locs ls hP hS hl
  refine W.objInit X.x X.b X.oc (X.ts _ h1) (X.ts _ h2) (X.ts _ h3) rfl (by rw [X.ml]; exact hl.1) rfl hd hf ?_ (kk H locs ls hP hS hl)
  show 2 * 0 + ((st.map tv).map fun v => v.category).sum + 12 ≤ R.locals
  rw [tv_sum]
  omega
theorem mv_mmax (X : mX p s m args meth c own nm cc nL ret D dA A) {idx : Nat} {x y : Int32} (hd : decode cc pc = .ok (.invokestatic idx, 3)) (h1 : Cond.methodLink own idx Lib.Math.max.name ∈ mAll) (h2 : Cond.static Lib.Math.max.name ∈ mAll) (h3 : Cond.initialized "java/lang/Math" ∈ mAll) (h4 : Cond.code Lib.Math.max.name Lib.Math.max.code 2 (some .int) ∈ mAll) (hf : 1 ≤ R.frames) (hlo : tsm st + 13 ≤ R.locals) (hc : cells ≤ R.cells) (hs : slots ≤ R.slots) (kk : mV p l e R s m args below meth c D dA A nL w cells slots Q (pc + 3) lv (vI (if x < y then y else x) :: st)) : mV p l e R s m args below meth c D dA A nL w cells slots Q pc lv (vI y :: vI x :: st) := by
  intro H locs ls hP hS hl
  exact va_mmax X.x X.b (by rw [X.ml]; exact hl.1.symm) X.oc (X.ts _ h1) (X.ts _ h2) (X.ts _ h3) (X.ts _ h4) hf (by rw [tv_sum]; exact hlo) hc hs hd (kk H locs ls hP hS hl)
end MV4

/-! ===== the whole object: its cells, the history told by programs, calls that hand on the whole ===== -/
def bd9 {α0 α1 α2 α3 α4 α5 α6 α7 α8 γ : Type} (x : Option (α0 × α1 × α2 × α3 × α4 × α5 × α6 × α7 × α8)) (f : α0 → α1 → α2 → α3 → α4 → α5 → α6 → α7 → α8 → Option γ) : Option γ := match x with | some (a0, a1, a2, a3, a4, a5, a6, a7, a8) => f a0 a1 a2 a3 a4 a5 a6 a7 a8 | none => none
theorem bd9_at {α0 α1 α2 α3 α4 α5 α6 α7 α8 γ : Type} {x : Option (α0 × α1 × α2 × α3 × α4 × α5 × α6 × α7 × α8)} {f : α0 → α1 → α2 → α3 → α4 → α5 → α6 → α7 → α8 → Option γ} {y : γ} (h : bd9 x f = some y) : ∃ a0 a1 a2 a3 a4 a5 a6 a7 a8, x = some (a0, a1, a2, a3, a4, a5, a6, a7, a8) ∧ f a0 a1 a2 a3 a4 a5 a6 a7 a8 = some y := by
  cases x with
  | none => cases h
  | some a => exact ⟨a.1, a.2.1, a.2.2.1, a.2.2.2.1, a.2.2.2.2.1, a.2.2.2.2.2.1, a.2.2.2.2.2.2.1, a.2.2.2.2.2.2.2.1, a.2.2.2.2.2.2.2.2, rfl, h⟩
def bd10 {α0 α1 α2 α3 α4 α5 α6 α7 α8 α9 γ : Type} (x : Option (α0 × α1 × α2 × α3 × α4 × α5 × α6 × α7 × α8 × α9)) (f : α0 → α1 → α2 → α3 → α4 → α5 → α6 → α7 → α8 → α9 → Option γ) : Option γ := match x with | some (a0, a1, a2, a3, a4, a5, a6, a7, a8, a9) => f a0 a1 a2 a3 a4 a5 a6 a7 a8 a9 | none => none
theorem bd10_at {α0 α1 α2 α3 α4 α5 α6 α7 α8 α9 γ : Type} {x : Option (α0 × α1 × α2 × α3 × α4 × α5 × α6 × α7 × α8 × α9)} {f : α0 → α1 → α2 → α3 → α4 → α5 → α6 → α7 → α8 → α9 → Option γ} {y : γ} (h : bd10 x f = some y) : ∃ a0 a1 a2 a3 a4 a5 a6 a7 a8 a9, x = some (a0, a1, a2, a3, a4, a5, a6, a7, a8, a9) ∧ f a0 a1 a2 a3 a4 a5 a6 a7 a8 a9 = some y := by
  cases x with
  | none => cases h
  | some a => exact ⟨a.1, a.2.1, a.2.2.1, a.2.2.2.1, a.2.2.2.2.1, a.2.2.2.2.2.1, a.2.2.2.2.2.2.1, a.2.2.2.2.2.2.2.1, a.2.2.2.2.2.2.2.2.1, a.2.2.2.2.2.2.2.2.2, rfl, h⟩
def bd11 {α0 α1 α2 α3 α4 α5 α6 α7 α8 α9 α10 γ : Type} (x : Option (α0 × α1 × α2 × α3 × α4 × α5 × α6 × α7 × α8 × α9 × α10)) (f : α0 → α1 → α2 → α3 → α4 → α5 → α6 → α7 → α8 → α9 → α10 → Option γ) : Option γ := match x with | some (a0, a1, a2, a3, a4, a5, a6, a7, a8, a9, a10) => f a0 a1 a2 a3 a4 a5 a6 a7 a8 a9 a10 | none => none
theorem bd11_at {α0 α1 α2 α3 α4 α5 α6 α7 α8 α9 α10 γ : Type} {x : Option (α0 × α1 × α2 × α3 × α4 × α5 × α6 × α7 × α8 × α9 × α10)} {f : α0 → α1 → α2 → α3 → α4 → α5 → α6 → α7 → α8 → α9 → α10 → Option γ} {y : γ} (h : bd11 x f = some y) : ∃ a0 a1 a2 a3 a4 a5 a6 a7 a8 a9 a10, x = some (a0, a1, a2, a3, a4, a5, a6, a7, a8, a9, a10) ∧ f a0 a1 a2 a3 a4 a5 a6 a7 a8 a9 a10 = some y := by
  cases x with
  | none => cases h
  | some a => exact ⟨a.1, a.2.1, a.2.2.1, a.2.2.2.1, a.2.2.2.2.1, a.2.2.2.2.2.1, a.2.2.2.2.2.2.1, a.2.2.2.2.2.2.2.1, a.2.2.2.2.2.2.2.2.1, a.2.2.2.2.2.2.2.2.2.1, a.2.2.2.2.2.2.2.2.2.2, rfl, h⟩
def bd12 {α0 α1 α2 α3 α4 α5 α6 α7 α8 α9 α10 α11 γ : Type} (x : Option (α0 × α1 × α2 × α3 × α4 × α5 × α6 × α7 × α8 × α9 × α10 × α11)) (f : α0 → α1 → α2 → α3 → α4 → α5 → α6 → α7 → α8 → α9 → α10 → α11 → Option γ) : Option γ := match x with | some (a0, a1, a2, a3, a4, a5, a6, a7, a8, a9, a10, a11) => f a0 a1 a2 a3 a4 a5 a6 a7 a8 a9 a10 a11 | none => none
theorem bd12_at {α0 α1 α2 α3 α4 α5 α6 α7 α8 α9 α10 α11 γ : Type} {x : Option (α0 × α1 × α2 × α3 × α4 × α5 × α6 × α7 × α8 × α9 × α10 × α11)} {f : α0 → α1 → α2 → α3 → α4 → α5 → α6 → α7 → α8 → α9 → α10 → α11 → Option γ} {y : γ} (h : bd12 x f = some y) : ∃ a0 a1 a2 a3 a4 a5 a6 a7 a8 a9 a10 a11, x = some (a0, a1, a2, a3, a4, a5, a6, a7, a8, a9, a10, a11) ∧ f a0 a1 a2 a3 a4 a5 a6 a7 a8 a9 a10 a11 = some y := by
  cases x with
  | none => cases h
  | some a => exact ⟨a.1, a.2.1, a.2.2.1, a.2.2.2.1, a.2.2.2.2.1, a.2.2.2.2.2.1, a.2.2.2.2.2.2.1, a.2.2.2.2.2.2.2.1, a.2.2.2.2.2.2.2.2.1, a.2.2.2.2.2.2.2.2.2.1, a.2.2.2.2.2.2.2.2.2.2.1, a.2.2.2.2.2.2.2.2.2.2.2, rfl, h⟩
def bd13 {α0 α1 α2 α3 α4 α5 α6 α7 α8 α9 α10 α11 α12 γ : Type} (x : Option (α0 × α1 × α2 × α3 × α4 × α5 × α6 × α7 × α8 × α9 × α10 × α11 × α12)) (f : α0 → α1 → α2 → α3 → α4 → α5 → α6 → α7 → α8 → α9 → α10 → α11 → α12 → Option γ) : Option γ := match x with | some (a0, a1, a2, a3, a4, a5, a6, a7, a8, a9, a10, a11, a12) => f a0 a1 a2 a3 a4 a5 a6 a7 a8 a9 a10 a11 a12 | none => none
theorem bd13_at {α0 α1 α2 α3 α4 α5 α6 α7 α8 α9 α10 α11 α12 γ : Type} {x : Option (α0 × α1 × α2 × α3 × α4 × α5 × α6 × α7 × α8 × α9 × α10 × α11 × α12)} {f : α0 → α1 → α2 → α3 → α4 → α5 → α6 → α7 → α8 → α9 → α10 → α11 → α12 → Option γ} {y : γ} (h : bd13 x f = some y) : ∃ a0 a1 a2 a3 a4 a5 a6 a7 a8 a9 a10 a11 a12, x = some (a0, a1, a2, a3, a4, a5, a6, a7, a8, a9, a10, a11, a12) ∧ f a0 a1 a2 a3 a4 a5 a6 a7 a8 a9 a10 a11 a12 = some y := by
  cases x with
  | none => cases h
  | some a => exact ⟨a.1, a.2.1, a.2.2.1, a.2.2.2.1, a.2.2.2.2.1, a.2.2.2.2.2.1, a.2.2.2.2.2.2.1, a.2.2.2.2.2.2.2.1, a.2.2.2.2.2.2.2.2.1, a.2.2.2.2.2.2.2.2.2.1, a.2.2.2.2.2.2.2.2.2.2.1, a.2.2.2.2.2.2.2.2.2.2.2.1, a.2.2.2.2.2.2.2.2.2.2.2.2, rfl, h⟩
def bd14 {α0 α1 α2 α3 α4 α5 α6 α7 α8 α9 α10 α11 α12 α13 γ : Type} (x : Option (α0 × α1 × α2 × α3 × α4 × α5 × α6 × α7 × α8 × α9 × α10 × α11 × α12 × α13)) (f : α0 → α1 → α2 → α3 → α4 → α5 → α6 → α7 → α8 → α9 → α10 → α11 → α12 → α13 → Option γ) : Option γ := match x with | some (a0, a1, a2, a3, a4, a5, a6, a7, a8, a9, a10, a11, a12, a13) => f a0 a1 a2 a3 a4 a5 a6 a7 a8 a9 a10 a11 a12 a13 | none => none
theorem bd14_at {α0 α1 α2 α3 α4 α5 α6 α7 α8 α9 α10 α11 α12 α13 γ : Type} {x : Option (α0 × α1 × α2 × α3 × α4 × α5 × α6 × α7 × α8 × α9 × α10 × α11 × α12 × α13)} {f : α0 → α1 → α2 → α3 → α4 → α5 → α6 → α7 → α8 → α9 → α10 → α11 → α12 → α13 → Option γ} {y : γ} (h : bd14 x f = some y) : ∃ a0 a1 a2 a3 a4 a5 a6 a7 a8 a9 a10 a11 a12 a13, x = some (a0, a1, a2, a3, a4, a5, a6, a7, a8, a9, a10, a11, a12, a13) ∧ f a0 a1 a2 a3 a4 a5 a6 a7 a8 a9 a10 a11 a12 a13 = some y := by
  cases x with
  | none => cases h
  | some a => exact ⟨a.1, a.2.1, a.2.2.1, a.2.2.2.1, a.2.2.2.2.1, a.2.2.2.2.2.1, a.2.2.2.2.2.2.1, a.2.2.2.2.2.2.2.1, a.2.2.2.2.2.2.2.2.1, a.2.2.2.2.2.2.2.2.2.1, a.2.2.2.2.2.2.2.2.2.2.1, a.2.2.2.2.2.2.2.2.2.2.2.1, a.2.2.2.2.2.2.2.2.2.2.2.2.1, a.2.2.2.2.2.2.2.2.2.2.2.2.2, rfl, h⟩
def bd15 {α0 α1 α2 α3 α4 α5 α6 α7 α8 α9 α10 α11 α12 α13 α14 γ : Type} (x : Option (α0 × α1 × α2 × α3 × α4 × α5 × α6 × α7 × α8 × α9 × α10 × α11 × α12 × α13 × α14)) (f : α0 → α1 → α2 → α3 → α4 → α5 → α6 → α7 → α8 → α9 → α10 → α11 → α12 → α13 → α14 → Option γ) : Option γ := match x with | some (a0, a1, a2, a3, a4, a5, a6, a7, a8, a9, a10, a11, a12, a13, a14) => f a0 a1 a2 a3 a4 a5 a6 a7 a8 a9 a10 a11 a12 a13 a14 | none => none
theorem bd15_at {α0 α1 α2 α3 α4 α5 α6 α7 α8 α9 α10 α11 α12 α13 α14 γ : Type} {x : Option (α0 × α1 × α2 × α3 × α4 × α5 × α6 × α7 × α8 × α9 × α10 × α11 × α12 × α13 × α14)} {f : α0 → α1 → α2 → α3 → α4 → α5 → α6 → α7 → α8 → α9 → α10 → α11 → α12 → α13 → α14 → Option γ} {y : γ} (h : bd15 x f = some y) : ∃ a0 a1 a2 a3 a4 a5 a6 a7 a8 a9 a10 a11 a12 a13 a14, x = some (a0, a1, a2, a3, a4, a5, a6, a7, a8, a9, a10, a11, a12, a13, a14) ∧ f a0 a1 a2 a3 a4 a5 a6 a7 a8 a9 a10 a11 a12 a13 a14 = some y := by
  cases x with
  | none => cases h
  | some a => exact ⟨a.1, a.2.1, a.2.2.1, a.2.2.2.1, a.2.2.2.2.1, a.2.2.2.2.2.1, a.2.2.2.2.2.2.1, a.2.2.2.2.2.2.2.1, a.2.2.2.2.2.2.2.2.1, a.2.2.2.2.2.2.2.2.2.1, a.2.2.2.2.2.2.2.2.2.2.1, a.2.2.2.2.2.2.2.2.2.2.2.1, a.2.2.2.2.2.2.2.2.2.2.2.2.1, a.2.2.2.2.2.2.2.2.2.2.2.2.2.1, a.2.2.2.2.2.2.2.2.2.2.2.2.2.2, rfl, h⟩
def bd16 {α0 α1 α2 α3 α4 α5 α6 α7 α8 α9 α10 α11 α12 α13 α14 α15 γ : Type} (x : Option (α0 × α1 × α2 × α3 × α4 × α5 × α6 × α7 × α8 × α9 × α10 × α11 × α12 × α13 × α14 × α15)) (f : α0 → α1 → α2 → α3 → α4 → α5 → α6 → α7 → α8 → α9 → α10 → α11 → α12 → α13 → α14 → α15 → Option γ) : Option γ := match x with | some (a0, a1, a2, a3, a4, a5, a6, a7, a8, a9, a10, a11, a12, a13, a14, a15) => f a0 a1 a2 a3 a4 a5 a6 a7 a8 a9 a10 a11 a12 a13 a14 a15 | none => none
theorem bd16_at {α0 α1 α2 α3 α4 α5 α6 α7 α8 α9 α10 α11 α12 α13 α14 α15 γ : Type} {x : Option (α0 × α1 × α2 × α3 × α4 × α5 × α6 × α7 × α8 × α9 × α10 × α11 × α12 × α13 × α14 × α15)} {f : α0 → α1 → α2 → α3 → α4 → α5 → α6 → α7 → α8 → α9 → α10 → α11 → α12 → α13 → α14 → α15 → Option γ} {y : γ} (h : bd16 x f = some y) : ∃ a0 a1 a2 a3 a4 a5 a6 a7 a8 a9 a10 a11 a12 a13 a14 a15, x = some (a0, a1, a2, a3, a4, a5, a6, a7, a8, a9, a10, a11, a12, a13, a14, a15) ∧ f a0 a1 a2 a3 a4 a5 a6 a7 a8 a9 a10 a11 a12 a13 a14 a15 = some y := by
  cases x with
  | none => cases h
  | some a => exact ⟨a.1, a.2.1, a.2.2.1, a.2.2.2.1, a.2.2.2.2.1, a.2.2.2.2.2.1, a.2.2.2.2.2.2.1, a.2.2.2.2.2.2.2.1, a.2.2.2.2.2.2.2.2.1, a.2.2.2.2.2.2.2.2.2.1, a.2.2.2.2.2.2.2.2.2.2.1, a.2.2.2.2.2.2.2.2.2.2.2.1, a.2.2.2.2.2.2.2.2.2.2.2.2.1, a.2.2.2.2.2.2.2.2.2.2.2.2.2.1, a.2.2.2.2.2.2.2.2.2.2.2.2.2.2.1, a.2.2.2.2.2.2.2.2.2.2.2.2.2.2.2, rfl, h⟩
def bd17 {α0 α1 α2 α3 α4 α5 α6 α7 α8 α9 α10 α11 α12 α13 α14 α15 α16 γ : Type} (x : Option (α0 × α1 × α2 × α3 × α4 × α5 × α6 × α7 × α8 × α9 × α10 × α11 × α12 × α13 × α14 × α15 × α16)) (f : α0 → α1 → α2 → α3 → α4 → α5 → α6 → α7 → α8 → α9 → α10 → α11 → α12 → α13 → α14 → α15 → α16 → Option γ) : Option γ := match x with | some (a0, a1, a2, a3, a4, a5, a6, a7, a8, a9, a10, a11, a12, a13, a14, a15, a16) => f a0 a1 a2 a3 a4 a5 a6 a7 a8 a9 a10 a11 a12 a13 a14 a15 a16 | none => none
theorem bd17_at {α0 α1 α2 α3 α4 α5 α6 α7 α8 α9 α10 α11 α12 α13 α14 α15 α16 γ : Type} {x : Option (α0 × α1 × α2 × α3 × α4 × α5 × α6 × α7 × α8 × α9 × α10 × α11 × α12 × α13 × α14 × α15 × α16)} {f : α0 → α1 → α2 → α3 → α4 → α5 → α6 → α7 → α8 → α9 → α10 → α11 → α12 → α13 → α14 → α15 → α16 → Option γ} {y : γ} (h : bd17 x f = some y) : ∃ a0 a1 a2 a3 a4 a5 a6 a7 a8 a9 a10 a11 a12 a13 a14 a15 a16, x = some (a0, a1, a2, a3, a4, a5, a6, a7, a8, a9, a10, a11, a12, a13, a14, a15, a16) ∧ f a0 a1 a2 a3 a4 a5 a6 a7 a8 a9 a10 a11 a12 a13 a14 a15 a16 = some y := by
  cases x with
  | none => cases h
  | some a => exact ⟨a.1, a.2.1, a.2.2.1, a.2.2.2.1, a.2.2.2.2.1, a.2.2.2.2.2.1, a.2.2.2.2.2.2.1, a.2.2.2.2.2.2.2.1, a.2.2.2.2.2.2.2.2.1, a.2.2.2.2.2.2.2.2.2.1, a.2.2.2.2.2.2.2.2.2.2.1, a.2.2.2.2.2.2.2.2.2.2.2.1, a.2.2.2.2.2.2.2.2.2.2.2.2.1, a.2.2.2.2.2.2.2.2.2.2.2.2.2.1, a.2.2.2.2.2.2.2.2.2.2.2.2.2.2.1, a.2.2.2.2.2.2.2.2.2.2.2.2.2.2.2.1, a.2.2.2.2.2.2.2.2.2.2.2.2.2.2.2.2, rfl, h⟩
def bd18 {α0 α1 α2 α3 α4 α5 α6 α7 α8 α9 α10 α11 α12 α13 α14 α15 α16 α17 γ : Type} (x : Option (α0 × α1 × α2 × α3 × α4 × α5 × α6 × α7 × α8 × α9 × α10 × α11 × α12 × α13 × α14 × α15 × α16 × α17)) (f : α0 → α1 → α2 → α3 → α4 → α5 → α6 → α7 → α8 → α9 → α10 → α11 → α12 → α13 → α14 → α15 → α16 → α17 → Option γ) : Option γ := match x with | some (a0, a1, a2, a3, a4, a5, a6, a7, a8, a9, a10, a11, a12, a13, a14, a15, a16, a17) => f a0 a1 a2 a3 a4 a5 a6 a7 a8 a9 a10 a11 a12 a13 a14 a15 a16 a17 | none => none
theorem bd18_at {α0 α1 α2 α3 α4 α5 α6 α7 α8 α9 α10 α11 α12 α13 α14 α15 α16 α17 γ : Type} {x : Option (α0 × α1 × α2 × α3 × α4 × α5 × α6 × α7 × α8 × α9 × α10 × α11 × α12 × α13 × α14 × α15 × α16 × α17)} {f : α0 → α1 → α2 → α3 → α4 → α5 → α6 → α7 → α8 → α9 → α10 → α11 → α12 → α13 → α14 → α15 → α16 → α17 → Option γ} {y : γ} (h : bd18 x f = some y) : ∃ a0 a1 a2 a3 a4 a5 a6 a7 a8 a9 a10 a11 a12 a13 a14 a15 a16 a17, x = some (a0, a1, a2, a3, a4, a5, a6, a7, a8, a9, a10, a11, a12, a13, a14, a15, a16, a17) ∧ f a0 a1 a2 a3 a4 a5 a6 a7 a8 a9 a10 a11 a12 a13 a14 a15 a16 a17 = some y := by
  cases x with
  | none => cases h
  | some a => exact ⟨a.1, a.2.1, a.2.2.1, a.2.2.2.1, a.2.2.2.2.1, a.2.2.2.2.2.1, a.2.2.2.2.2.2.1, a.2.2.2.2.2.2.2.1, a.2.2.2.2.2.2.2.2.1, a.2.2.2.2.2.2.2.2.2.1, a.2.2.2.2.2.2.2.2.2.2.1, a.2.2.2.2.2.2.2.2.2.2.2.1, a.2.2.2.2.2.2.2.2.2.2.2.2.1, a.2.2.2.2.2.2.2.2.2.2.2.2.2.1, a.2.2.2.2.2.2.2.2.2.2.2.2.2.2.1, a.2.2.2.2.2.2.2.2.2.2.2.2.2.2.2.1, a.2.2.2.2.2.2.2.2.2.2.2.2.2.2.2.2.1, a.2.2.2.2.2.2.2.2.2.2.2.2.2.2.2.2.2, rfl, h⟩
abbrev W5x (cI : ClassId) (aC aS aL aW aB aF aZ aK aM aO aT aY : Nat) (sr : Int32) (wm : Int32) (wW : Nat → Int32) (bh : Int32) (bF : Nat → Int32) (bZ : Nat → Int32) (bK : Nat → Int32) (bM : Nat → Int32) (ol : Int32) (oS : Nat → Int32) : va_W := (aC, .inr (5, [.ref aS, .ref aY, .ref aO])) :: (W4 cI aS aL aW aB aF aZ aK aM sr wm wW bh bF bZ bK bM ++ W3 cI aO aT ol oS)
def f1_save (kd : Int32) (kA : Nat → SA) (kV : Nat → SV) (sr : Int32) (wm : Int32) (wW : Nat → Int32) (bh : Int32) (bF : Nat → Int32) (bZ : Nat → Int32) (bK : Nat → Int32) (bM : Nat → Int32) : Option (Int32 × (Nat → SA) × (Nat → SV)) :=
  if kd = (0 : Int32) then some ((1 : Int32), kA, va_up kV 0 (sr, wm, wW, bh, bF, bZ, bK, bM))
  else if kd = (1 : Int32) then some ((2 : Int32), kA, va_up kV 1 (sr, wm, wW, bh, bF, bZ, bK, bM))
  else if kd = (2 : Int32) then some ((3 : Int32), kA, va_up kV 2 (sr, wm, wW, bh, bF, bZ, bK, bM))
  else if kd = (3 : Int32) then some ((4 : Int32), kA, va_up kV 3 (sr, wm, wW, bh, bF, bZ, bK, bM))
  else if kd = (4 : Int32) then some ((5 : Int32), kA, va_up kV 4 (sr, wm, wW, bh, bF, bZ, bK, bM))
  else if kd = (5 : Int32) then some ((6 : Int32), kA, va_up kV 5 (sr, wm, wW, bh, bF, bZ, bK, bM))
  else if kd = (6 : Int32) then some ((6 : Int32), rotA kA, va_up (rotV kV) 5 (sr, wm, wW, bh, bF, bZ, bK, bM)) else none
def f1_restoreLast (kd : Int32) (kV : Nat → SV) : Option ((Int32) × (Int32) × (Nat → Int32) × (Int32) × (Nat → Int32) × (Nat → Int32) × (Nat → Int32) × (Nat → Int32) × Int32) :=
  if kd = (1 : Int32) then some ((kV 0).1, (kV 0).2.1, (kV 0).2.2.1, (kV 0).2.2.2.1, (kV 0).2.2.2.2.1, (kV 0).2.2.2.2.2.1, (kV 0).2.2.2.2.2.2.1, (kV 0).2.2.2.2.2.2.2, (0 : Int32))
  else if kd = (2 : Int32) then some ((kV 1).1, (kV 1).2.1, (kV 1).2.2.1, (kV 1).2.2.2.1, (kV 1).2.2.2.2.1, (kV 1).2.2.2.2.2.1, (kV 1).2.2.2.2.2.2.1, (kV 1).2.2.2.2.2.2.2, (1 : Int32))
  else if kd = (3 : Int32) then some ((kV 2).1, (kV 2).2.1, (kV 2).2.2.1, (kV 2).2.2.2.1, (kV 2).2.2.2.2.1, (kV 2).2.2.2.2.2.1, (kV 2).2.2.2.2.2.2.1, (kV 2).2.2.2.2.2.2.2, (2 : Int32))
  else if kd = (4 : Int32) then some ((kV 3).1, (kV 3).2.1, (kV 3).2.2.1, (kV 3).2.2.2.1, (kV 3).2.2.2.2.1, (kV 3).2.2.2.2.2.1, (kV 3).2.2.2.2.2.2.1, (kV 3).2.2.2.2.2.2.2, (3 : Int32))
  else if kd = (5 : Int32) then some ((kV 4).1, (kV 4).2.1, (kV 4).2.2.1, (kV 4).2.2.2.1, (kV 4).2.2.2.2.1, (kV 4).2.2.2.2.2.1, (kV 4).2.2.2.2.2.2.1, (kV 4).2.2.2.2.2.2.2, (4 : Int32))
  else if kd = (6 : Int32) then some ((kV 5).1, (kV 5).2.1, (kV 5).2.2.1, (kV 5).2.2.2.1, (kV 5).2.2.2.2.1, (kV 5).2.2.2.2.2.1, (kV 5).2.2.2.2.2.2.1, (kV 5).2.2.2.2.2.2.2, (5 : Int32))
  else none
def f1_putIntoSlot (kf : Nat → Int32) (kP : Nat → SV) (sr : Int32) (wm : Int32) (wW : Nat → Int32) (bh : Int32) (bF : Nat → Int32) (bZ : Nat → Int32) (bK : Nat → Int32) (bM : Nat → Int32) (x1 : Int32) : Option ((Nat → Int32) × (Nat → SV)) :=
  if x1 = (0 : Int32) then some (upd kf 0 1, va_up kP 0 (sr, wm, wW, bh, bF, bZ, bK, bM))
  else if x1 = (1 : Int32) then some (upd kf 1 1, va_up kP 1 (sr, wm, wW, bh, bF, bZ, bK, bM))
  else none
def f1_restoreSlot (kP : Nat → SV) (x1 : Int32) : Option ((Int32) × (Int32) × (Nat → Int32) × (Int32) × (Nat → Int32) × (Nat → Int32) × (Nat → Int32) × (Nat → Int32)) :=
  if x1 = (0 : Int32) then some ((kP 0).1, (kP 0).2.1, (kP 0).2.2.1, (kP 0).2.2.2.1, (kP 0).2.2.2.2.1, (kP 0).2.2.2.2.2.1, (kP 0).2.2.2.2.2.2.1, (kP 0).2.2.2.2.2.2.2)
  else if x1 = (1 : Int32) then some ((kP 1).1, (kP 1).2.1, (kP 1).2.2.1, (kP 1).2.2.2.1, (kP 1).2.2.2.2.1, (kP 1).2.2.2.2.2.1, (kP 1).2.2.2.2.2.2.1, (kP 1).2.2.2.2.2.2.2)
  else none
set_option maxHeartbeats 4000000 in
theorem K1_save (l : Launch) (D : va_G) (cI cZ cS cJ : ClassId) (aS aL aW aB aF aZ aK aM : Nat) (sr : Int32) (wm : Int32) (wW : Nat → Int32) (bh : Int32) (bF : Nat → Int32) (bZ : Nat → Int32) (bK : Nat → Int32) (bM : Nat → Int32) (aY aV aU aR : Nat) (kd : Int32) (kf : Nat → Int32) (kA kQ : Nat → SA) (kV kP : Nat → SV) (z_kd : Int32) (z_kA : Nat → SA) (z_kV : Nat → SV) (hF : f1_save kd kA kV sr wm wW bh bF bZ bK bM = some (z_kd, z_kA, z_kV)) : Met l yX1_save wsX1_save rm1_save (uP D (gT cI cZ cS cJ) (W4 cI aS aL aW aB aF aZ aK aM sr wm wW bh bF bZ bK bM ++ HB cI cZ cS aY aV aU aR kd kf kA kV kQ kP) [.ref aY, .ref aS]) (uQ2 D none (uA (W4 cI aS aL aW aB aF aZ aK aM sr wm wW bh bF bZ bK bM ++ HB cI cZ cS aY aV aU aR kd kf kA kV kQ kP)) (W4 cI aS aL aW aB aF aZ aK aM sr wm wW bh bF bZ bK bM ++ HB cI cZ cS aY aV aU aR z_kd kf z_kA z_kV kQ kP)) 0 0 (uA (W4 cI aS aL aW aB aF aZ aK aM sr wm wW bh bF bZ bK bM ++ HB cI cZ cS aY aV aU aR kd kf kA kV kQ kP)) := by
  unfold f1_save at hF
  by_cases h : kd = (0 : Int32)
  · have hF := ite_t h hF
    cases hF
    subst h
    exact K1_save_0 l D cI cZ cS cJ aS aL aW aB aF aZ aK aM sr wm wW bh bF bZ bK bM aY aV aU aR kf kA kQ kV kP
  have hF := ite_f h hF
  clear h
  by_cases h : kd = (1 : Int32)
  · have hF := ite_t h hF
    cases hF
    subst h
    exact K1_save_1 l D cI cZ cS cJ aS aL aW aB aF aZ aK aM sr wm wW bh bF bZ bK bM aY aV aU aR kf kA kQ kV kP
  have hF := ite_f h hF
  clear h
  by_cases h : kd = (2 : Int32)
  · have hF := ite_t h hF
    cases hF
    subst h
    exact K1_save_2 l D cI cZ cS cJ aS aL aW aB aF aZ aK aM sr wm wW bh bF bZ bK bM aY aV aU aR kf kA kQ kV kP
  have hF := ite_f h hF
  clear h
  by_cases h : kd = (3 : Int32)
  · have hF := ite_t h hF
    cases hF
    subst h
    exact K1_save_3 l D cI cZ cS cJ aS aL aW aB aF aZ aK aM sr wm wW bh bF bZ bK bM aY aV aU aR kf kA kQ kV kP
  have hF := ite_f h hF
  clear h
  by_cases h : kd = (4 : Int32)
  · have hF := ite_t h hF
    cases hF
    subst h
    exact K1_save_4 l D cI cZ cS cJ aS aL aW aB aF aZ aK aM sr wm wW bh bF bZ bK bM aY aV aU aR kf kA kQ kV kP
  have hF := ite_f h hF
  clear h
  by_cases h : kd = (5 : Int32)
  · have hF := ite_t h hF
    cases hF
    subst h
    exact K1_save_5 l D cI cZ cS cJ aS aL aW aB aF aZ aK aM sr wm wW bh bF bZ bK bM aY aV aU aR kf kA kQ kV kP
  have hF := ite_f h hF
  clear h
  by_cases h : kd = (6 : Int32)
  · have hF := ite_t h hF
    cases hF
    subst h
    exact K1_save_6 l D cI cZ cS cJ aS aL aW aB aF aZ aK aM sr wm wW bh bF bZ bK bM aY aV aU aR kf kA kQ kV kP
  have hF := ite_f h hF
  clear h
  cases hF
set_option maxHeartbeats 4000000 in
theorem K1_restoreLast (l : Launch) (D : va_G) (cI cZ cS cJ : ClassId) (aS aL aW aB aF aZ aK aM : Nat) (sr : Int32) (wm : Int32) (wW : Nat → Int32) (bh : Int32) (bF : Nat → Int32) (bZ : Nat → Int32) (bK : Nat → Int32) (bM : Nat → Int32) (aY aV aU aR : Nat) (kd : Int32) (kf : Nat → Int32) (kA kQ : Nat → SA) (kV kP : Nat → SV) (z_sr : Int32) (z_wm : Int32) (z_wW : Nat → Int32) (z_bh : Int32) (z_bF : Nat → Int32) (z_bZ : Nat → Int32) (z_bK : Nat → Int32) (z_bM : Nat → Int32) (z_kd : Int32) (hF : f1_restoreLast kd kV = some (z_sr, z_wm, z_wW, z_bh, z_bF, z_bZ, z_bK, z_bM, z_kd)) : Met l yX1_restoreLast wsX1_restoreLast rm1_restoreLast (uP D (gT cI cZ cS cJ) (W4 cI aS aL aW aB aF aZ aK aM sr wm wW bh bF bZ bK bM ++ HB cI cZ cS aY aV aU aR kd kf kA kV kQ kP) [.ref aY, .ref aS]) (uQ2 D none (uA (W4 cI aS aL aW aB aF aZ aK aM sr wm wW bh bF bZ bK bM ++ HB cI cZ cS aY aV aU aR kd kf kA kV kQ kP)) (W4 cI aS aL aW aB aF aZ aK aM z_sr z_wm z_wW z_bh z_bF z_bZ z_bK z_bM ++ HB cI cZ cS aY aV aU aR z_kd kf kA kV kQ kP)) 0 0 (uA (W4 cI aS aL aW aB aF aZ aK aM sr wm wW bh bF bZ bK bM ++ HB cI cZ cS aY aV aU aR kd kf kA kV kQ kP)) := by
  unfold f1_restoreLast at hF
  by_cases h : kd = (1 : Int32)
  · have hF := ite_t h hF
    cases hF
    subst h
    exact K1_restoreLast_1 l D cI cZ cS cJ aS aL aW aB aF aZ aK aM sr wm wW bh bF bZ bK bM aY aV aU aR kf kA kQ kV kP
  have hF := ite_f h hF
  clear h
  by_cases h : kd = (2 : Int32)
  · have hF := ite_t h hF
    cases hF
    subst h
    exact K1_restoreLast_2 l D cI cZ cS cJ aS aL aW aB aF aZ aK aM sr wm wW bh bF bZ bK bM aY aV aU aR kf kA kQ kV kP
  have hF := ite_f h hF
  clear h
  by_cases h : kd = (3 : Int32)
  · have hF := ite_t h hF
    cases hF
    subst h
    exact K1_restoreLast_3 l D cI cZ cS cJ aS aL aW aB aF aZ aK aM sr wm wW bh bF bZ bK bM aY aV aU aR kf kA kQ kV kP
  have hF := ite_f h hF
  clear h
  by_cases h : kd = (4 : Int32)
  · have hF := ite_t h hF
    cases hF
    subst h
    exact K1_restoreLast_4 l D cI cZ cS cJ aS aL aW aB aF aZ aK aM sr wm wW bh bF bZ bK bM aY aV aU aR kf kA kQ kV kP
  have hF := ite_f h hF
  clear h
  by_cases h : kd = (5 : Int32)
  · have hF := ite_t h hF
    cases hF
    subst h
    exact K1_restoreLast_5 l D cI cZ cS cJ aS aL aW aB aF aZ aK aM sr wm wW bh bF bZ bK bM aY aV aU aR kf kA kQ kV kP
  have hF := ite_f h hF
  clear h
  by_cases h : kd = (6 : Int32)
  · have hF := ite_t h hF
    cases hF
    subst h
    exact K1_restoreLast_6 l D cI cZ cS cJ aS aL aW aB aF aZ aK aM sr wm wW bh bF bZ bK bM aY aV aU aR kf kA kQ kV kP
  have hF := ite_f h hF
  clear h
  cases hF
set_option maxHeartbeats 4000000 in
theorem K1_putIntoSlot (l : Launch) (D : va_G) (cI cZ cS cJ : ClassId) (aS aL aW aB aF aZ aK aM : Nat) (sr : Int32) (wm : Int32) (wW : Nat → Int32) (bh : Int32) (bF : Nat → Int32) (bZ : Nat → Int32) (bK : Nat → Int32) (bM : Nat → Int32) (aY aV aU aR : Nat) (kd : Int32) (kf : Nat → Int32) (kA kQ : Nat → SA) (kV kP : Nat → SV) (x1 : Int32) (z_kf : Nat → Int32) (z_kP : Nat → SV) (hF : f1_putIntoSlot kf kP sr wm wW bh bF bZ bK bM x1 = some (z_kf, z_kP)) : Met l yX1_putIntoSlot wsX1_putIntoSlot rm1_putIntoSlot (uP D (gT cI cZ cS cJ) (W4 cI aS aL aW aB aF aZ aK aM sr wm wW bh bF bZ bK bM ++ HB cI cZ cS aY aV aU aR kd kf kA kV kQ kP) [.ref aY, .int x1, .ref aS]) (uQ2 D none (uA (W4 cI aS aL aW aB aF aZ aK aM sr wm wW bh bF bZ bK bM ++ HB cI cZ cS aY aV aU aR kd kf kA kV kQ kP)) (W4 cI aS aL aW aB aF aZ aK aM sr wm wW bh bF bZ bK bM ++ HB cI cZ cS aY aV aU aR kd z_kf kA kV kQ z_kP)) 0 0 (uA (W4 cI aS aL aW aB aF aZ aK aM sr wm wW bh bF bZ bK bM ++ HB cI cZ cS aY aV aU aR kd kf kA kV kQ kP)) := by
  unfold f1_putIntoSlot at hF
  by_cases h : x1 = (0 : Int32)
  · have hF := ite_t h hF
    cases hF
    subst h
    exact K1_putIntoSlot_0 l D cI cZ cS cJ aS aL aW aB aF aZ aK aM sr wm wW bh bF bZ bK bM aY aV aU aR kd kf kA kQ kV kP
  have hF := ite_f h hF
  clear h
  by_cases h : x1 = (1 : Int32)
  · have hF := ite_t h hF
    cases hF
    subst h
    exact K1_putIntoSlot_1 l D cI cZ cS cJ aS aL aW aB aF aZ aK aM sr wm wW bh bF bZ bK bM aY aV aU aR kd kf kA kQ kV kP
  have hF := ite_f h hF
  clear h
  cases hF
set_option maxHeartbeats 4000000 in
theorem K1_restoreSlot (l : Launch) (D : va_G) (cI cZ cS cJ : ClassId) (aS aL aW aB aF aZ aK aM : Nat) (sr : Int32) (wm : Int32) (wW : Nat → Int32) (bh : Int32) (bF : Nat → Int32) (bZ : Nat → Int32) (bK : Nat → Int32) (bM : Nat → Int32) (aY aV aU aR : Nat) (kd : Int32) (kf : Nat → Int32) (kA kQ : Nat → SA) (kV kP : Nat → SV) (x1 : Int32) (z_sr : Int32) (z_wm : Int32) (z_wW : Nat → Int32) (z_bh : Int32) (z_bF : Nat → Int32) (z_bZ : Nat → Int32) (z_bK : Nat → Int32) (z_bM : Nat → Int32) (hF : f1_restoreSlot kP x1 = some (z_sr, z_wm, z_wW, z_bh, z_bF, z_bZ, z_bK, z_bM)) : Met l yX1_restoreSlot wsX1_restoreSlot rm1_restoreSlot (uP D (gT cI cZ cS cJ) (W4 cI aS aL aW aB aF aZ aK aM sr wm wW bh bF bZ bK bM ++ HB cI cZ cS aY aV aU aR kd kf kA kV kQ kP) [.ref aY, .int x1, .ref aS]) (uQ2 D none (uA (W4 cI aS aL aW aB aF aZ aK aM sr wm wW bh bF bZ bK bM ++ HB cI cZ cS aY aV aU aR kd kf kA kV kQ kP)) (W4 cI aS aL aW aB aF aZ aK aM z_sr z_wm z_wW z_bh z_bF z_bZ z_bK z_bM ++ HB cI cZ cS aY aV aU aR kd kf kA kV kQ kP)) 0 0 (uA (W4 cI aS aL aW aB aF aZ aK aM sr wm wW bh bF bZ bK bM ++ HB cI cZ cS aY aV aU aR kd kf kA kV kQ kP)) := by
  unfold f1_restoreSlot at hF
  by_cases h : x1 = (0 : Int32)
  · have hF := ite_t h hF
    cases hF
    subst h
    exact K1_restoreSlot_0 l D cI cZ cS cJ aS aL aW aB aF aZ aK aM sr wm wW bh bF bZ bK bM aY aV aU aR kd kf kA kQ kV kP
  have hF := ite_f h hF
  clear h
  by_cases h : x1 = (1 : Int32)
  · have hF := ite_t h hF
    cases hF
    subst h
    exact K1_restoreSlot_1 l D cI cZ cS cJ aS aL aW aB aF aZ aK aM sr wm wW bh bF bZ bK bM aY aV aU aR kd kf kA kQ kV kP
  have hF := ite_f h hF
  clear h
  cases hF
section FRows
variable {p : Program} {l : Launch} {e : Env} {R : Room} {s : State} {m : MethodId} {args : Array Value} {below : List Frame} {meth : Method} {c : Code} {H : Heap} {locs : List Loc} {cells slots : Nat} {Q : State → Prop}
variable {pc : Nat} {ls : Array Slot} {rest : List Value} {D : va_G} {A : Nat → Prop} {ws ws' : va_W}
theorem ufull {a : Array Value} {st0 : List Value} {H0 : Heap} {v : Option Value} (hr : va_Run p l e R s m args below meth c H locs cells slots 0 0 (F0 m pc ls st0) rest (uQ D v (uA ws) ws' a) (uA ws)) (hS : va_S A H0 H locs) (hP : va_P D vwCl ws H) (hD : va_D A ws) (hwd : ws'.map (fun x => x.1) = ws.map (fun x => x.1))
    (kk : ∀ (H1 : Heap) (locs1 : List Loc), va_P D vwCl ws' H1 → va_D A ws' → va_S A H0 H1 locs1 → W p l e R s m args below meth c H1 locs1 cells slots Q (F0 m (pc + 3) ls (v.toList ++ rest))) : W p l e R s m args below meth c H locs cells slots Q (F0 m pc ls st0) := by
  intro T hT X
  obtain ⟨v', st₀, t, T', L, h0, X', hL, e1, e2, ⟨hv, hP1, hz, hk⟩, st⟩ := hr T hT X
  cases hv
  rw [h0] at hz hk
  have hA : ∀ q, uA ws q → A q := fun q h => by
    obtain ⟨k, x, h1, h2⟩ := uA_get h
    rw [← h2]
    exact hD.2 k x h1
  obtain ⟨t2, a1, b1⟩ := kk t.heap (locs ++ L) hP1 (hD.alike hwd)
    ⟨Nat.le_trans hS.1 hz, fun q h1 h2 => by rw [hk q (Nat.lt_of_lt_of_le h1 hS.1) (fun z => h2 (hA q z))]; exact hS.2.1 q h1 h2, fun q hq => by
      rcases List.mem_append.mp hq with h | h
      · exact hS.2.2 q h
      · exact hA _ (hL q h)⟩ T' e1 X'
  exact ⟨t2, st t2 a1, b1⟩
theorem ufulli {a : Array Value} {st0 : List Value} {H0 : Heap} {x : Int32} {ws' : va_W} (hr : va_Run p l e R s m args below meth c H locs cells slots 0 0 (F0 m pc ls st0) rest (uQ D (some (.int x)) (uA ws) ws' a) (uA ws)) (hS : va_S A H0 H locs) (hP : va_P D vwCl ws H) (hD : va_D A ws) (hwd : ws'.map (fun x => x.1) = ws.map (fun x => x.1))
    (kk : ∀ (H1 : Heap) (locs1 : List Loc), va_P D vwCl ws' H1 → va_D A ws' → va_S A H0 H1 locs1 → W p l e R s m args below meth c H1 locs1 cells slots Q (F0 m (pc + 3) ls (.int x :: rest))) : W p l e R s m args below meth c H locs cells slots Q (F0 m pc ls st0) := ufull hr hS hP hD hwd kk
theorem ufullv {a : Array Value} {st0 : List Value} {H0 : Heap} {ws' : va_W} (hr : va_Run p l e R s m args below meth c H locs cells slots 0 0 (F0 m pc ls st0) rest (uQ D none (uA ws) ws' a) (uA ws)) (hS : va_S A H0 H locs) (hP : va_P D vwCl ws H) (hD : va_D A ws) (hwd : ws'.map (fun x => x.1) = ws.map (fun x => x.1))
    (kk : ∀ (H1 : Heap) (locs1 : List Loc), va_P D vwCl ws' H1 → va_D A ws' → va_S A H0 H1 locs1 → W p l e R s m args below meth c H1 locs1 cells slots Q (F0 m (pc + 3) ls rest)) : W p l e R s m args below meth c H locs cells slots Q (F0 m pc ls st0) := ufull hr hS hP hD hwd kk
end FRows
abbrev xW (p : Program) (l : Launch) (e : Env) (ws : List Cond) (rm : Room) (s : State) (m : MethodId) (args : Array Value) (below : List Frame) (meth : Method) (c : Code) (D : va_G) (k : Nat) (v : Option Value) (A0 : Nat → Prop) (ws' : va_W) (mc ms : Nat) (H : Heap) (locs : List Loc) (cells slots : Nat) (g : JFrame) : Prop :=
  W p l e (headSpec ws rm).room s m args below meth c H locs cells slots (vx_MQ below (xQ D k v A0 ws') (xX D k A0 ws') args s mc ms A0) g

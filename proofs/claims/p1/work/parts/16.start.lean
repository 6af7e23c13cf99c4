/-! What the start gives: constants, tables, the script. -/
def hTb : List (List Int) := [[47], [99, 111, 110, 115], [57, 80, 50, 48, 48, 48], [57, 80, 50, 48, 48, 48], [117, 110, 107, 110, 111, 119, 110], [107, 105, 108, 108], [110, 111, 32, 115, 117, 99, 104, 32, 102, 105, 108, 101], [110, 111, 116, 32, 97, 32, 100, 105, 114, 101, 99, 116, 111, 114, 121], [112, 101, 114, 109, 105, 115, 115, 105, 111, 110, 32, 100, 101, 110, 105, 101, 100], [102, 105, 108, 101, 32, 101, 120, 105, 115, 116, 115], [98, 97, 100, 32, 110, 97, 109, 101], [117, 110, 107, 110, 111, 119, 110, 32, 102, 105, 100], [102, 105, 100, 32, 105, 110, 32, 117, 115, 101], [102, 105, 100, 32, 105, 115, 32, 111, 112, 101, 110], [102, 105, 100, 32, 105, 115, 32, 110, 111, 116, 32, 111, 112, 101, 110], [105, 115, 32, 97, 32, 100, 105, 114, 101, 99, 116, 111, 114, 121], [110, 111, 116, 32, 101, 109, 112, 116, 121], [110, 111, 32, 114, 111, 111, 109], [98, 97, 100, 32, 111, 102, 102, 115, 101, 116], [98, 97, 100, 32, 109, 101, 115, 115, 97, 103, 101], [117, 110, 107, 110, 111, 119, 110, 32, 117, 115, 101, 114], [98, 97, 100, 32, 109, 111, 100, 101], [99, 100], [99, 97, 116], [108, 115], [101, 99, 104, 111], [109, 107, 100, 105, 114], [99, 114, 101, 97, 116, 101], [114, 109], [109, 118], [115, 105, 122, 101], [99, 104, 109, 111, 100], [115, 116, 97, 116], [111, 112, 101, 110], [114, 101, 97, 100], [119, 114, 105, 116, 101], [115, 101, 101, 107], [99, 108, 111, 115, 101], [98, 105, 110, 100], [109, 111, 117, 110, 116], [117, 110, 109, 111, 117, 110, 116], [102, 111, 114, 107], [101, 120, 105, 116], [115, 101, 116], [105, 102], [102, 111, 114], [114, 117, 110], [62, 62], [62], [115], [99], [101], [115, 116, 97, 116, 117, 115], [99, 116, 108], [61], [33, 61], [100, 111], [105, 110]]
def hOrd : List Nat := [0, 1, 2, 3, 4, 5, 6, 7, 8, 9, 10, 11, 12, 13, 14, 15, 16, 17, 18, 19, 20, 21, 22, 23, 24, 25, 26, 27, 28, 29, 30, 31, 32, 33, 34, 35, 36, 37, 38, 39, 40, 41, 42, 43, 44, 45, 46, 47, 48, 49, 50, 51, 52, 53, 54, 55, 56, 57]
def hUN : List Int := [7169121, 7237217, 6451042, 6649445]
def hND : List Int := [4, 2, 6, 1]
def hK : Nat := 128
def hNS : Nat := 58
def hE (fb : Bool) (j : Nat) : AV := match j with
  | 0 => vI 1
  | 1 => if fb = true then vR (some 1) else vR none
  | 2 => vR (some 2)
  | 3 => vR (some 3)
  | j + 4 => vR (some (4 + 2 * j))
def hTm (j : Nat) : Term := .string (hName (hLS.getD j (0, 0, 0, 0)).1) (hLS.getD j (0, 0, 0, 0)).2.1
def hTl (j : Nat) : Nat := (hTb.getD j []).length
def hTf (j : Nat) : Term := .field (hTm j) "java/lang/String" "value" "[B"
def hSW (j : Nat) : List Cond := [.exactly (hTm j) "java/lang/String", .eq (.field (hTm j) "java/lang/String" "coder" "B") (.int 0), .arrayOf (hTf j) .byte, .eq (.length (hTf j)) (.int (Int32.ofNat (hTl j)))] ++
  (List.range (hTl j)).map (fun k => .eq (.elem (hTf j) (.int (Int32.ofNat k))) (.int (Int32.ofInt ((hTb.getD j []).getD k 0))))
def hIW (n : String) (l : List Int) : List Cond := [.arrayOf (.static "SpaceHouse" n "[I") .int, .eq (.length (.static "SpaceHouse" n "[I")) (.int (Int32.ofNat l.length))] ++
  (List.range l.length).map (fun k => .eq (.elem (.static "SpaceHouse" n "[I") (.int (Int32.ofNat k))) (.int (Int32.ofInt (l.getD k 0))))
def hAll : List Cond := [.eq (.static "java/lang/String" "COMPACT_STRINGS" "Z") (.int 1), .isRef (.static "jdk/internal/util/Preconditions" "SIOOBE_FORMATTER" "Ljava/util/function/BiFunction;")] ++ (hIW "USER_NAMES" hUN ++ (hIW "NEEDS" hND ++ hOrd.flatMap hSW))
def hsubw : List Cond → List Cond → Bool
  | _, [] => true
  | [], _ :: _ => false
  | w :: t, e :: r => if w = e then hsubw t r else hsubw t (e :: r)
theorem hsubw_in : ∀ (t es : List Cond), hsubw t es = true → ∀ e ∈ es, e ∈ t := by
  intro t
  induction t with
  | nil =>
    intro es h e he
    cases es with
    | nil => cases he
    | cons a r => cases h
  | cons w t ih =>
    intro es h e he
    cases es with
    | nil => cases he
    | cons a r =>
      unfold hsubw at h
      by_cases hw : w = a
      · rw [if_pos hw] at h
        rcases List.mem_cons.mp he with rfl | he
        · exact List.mem_cons.mpr (Or.inl hw.symm)
        · exact List.mem_cons_of_mem _ (ih r h e he)
      · rw [if_neg hw] at h
        exact List.mem_cons_of_mem _ (ih _ h e he)
set_option maxRecDepth 100000 in
theorem hAll_ok : hsubw (flatC (Jvm.Cond.and given_1 narrow_1)) hAll = true := by decide +kernel
theorem hNar {args : Array Value} {s : State} (h : (Jvm.Cond.and given_1 narrow_1).before args s = true) : ∀ e ∈ hAll, e.before args s = true := fun e he => flat_of_before _ h e (hsubw_in _ _ hAll_ok e he)
theorem hOrd_all {j : Nat} (h : j < hNS) : j ∈ hOrd := by
  have h1 : (List.range hNS).all (fun j => decide (j ∈ hOrd)) = true := by decide +kernel
  exact of_decide_eq_true (List.all_eq_true.mp h1 j (List.mem_range.mpr h))
theorem hSW_in {args : Array Value} {s : State} (h : (Jvm.Cond.and given_1 narrow_1).before args s = true) {j : Nat} (hj : j < hNS) : ∀ e ∈ hSW j, e.before args s = true := fun e he =>
  hNar h e (List.mem_append_right _ (List.mem_append_right _ (List.mem_append_right _ (List.mem_flatMap.mpr ⟨j, hOrd_all hj, he⟩))))
theorem hTl_lt {j : Nat} (hj : j < hNS) : hTl j < 100 := by
  have h1 : (List.range hNS).all (fun j => decide (hTl j < 100)) = true := by decide +kernel
  exact of_decide_eq_true (List.all_eq_true.mp h1 j (List.mem_range.mpr hj))
theorem str_of {args : Array Value} {s : State} (h : (Jvm.Cond.and given_1 narrow_1).before args s = true) (j : Nat) : ∃ q : Nat × Nat, j < hNS → (hTm j).eval args s none [] s = some (.ref q.1) ∧ va_O "java/lang/String" q.1 (fun a => s.heap.size ≤ a) s s.heap ∧
    va_OF "java/lang/String" "coder" "B" (.int 0) q.1 (fun a => s.heap.size ≤ a) s s.heap ∧ va_OF "java/lang/String" "value" "[B" (.ref q.2) q.1 (fun a => s.heap.size ≤ a) s s.heap ∧
    va_T .byte q.2 (hTl j) (fun k => .int (Int32.ofInt ((hTb.getD j []).getD k 0))) (fun a => s.heap.size ≤ a) s s.heap := by
  by_cases hj : j < hNS
  · have hA : ∀ a : Nat, a < s.heap.size → ¬ s.heap.size ≤ a := fun a h1 h2 => by omega
    have hw := hSW_in h hj
    obtain ⟨a, c, cA, kA, q1, q2, q3, q4, q5, q6, -⟩ := Cond.exactly_spec (args := args) (first := s) (o := none) (s := s) (idx := []) (t := hTm j) (cls := "java/lang/String") (hw _ (by simp [hSW]))
    obtain ⟨t, ht, hT⟩ := va_Tof (tm := hTf j) (ty := .byte) (N := hTl j) (f := fun k => .int (Int32.ofInt ((hTb.getD j []).getD k 0))) (A := fun a => s.heap.size ≤ a) (by have := hTl_lt hj; omega) (hw _ (by simp [hSW])) (va_eqt (hw _ (by simp [hSW])))
      (fun k hk => va_eqt (hw _ (List.mem_append_right _ (List.mem_map.mpr ⟨k, List.mem_range.mpr hk, rfl⟩)))) hA
    exact ⟨(a, t), fun _ => ⟨q1, ⟨cA, q3, q5, by rw [q6]; exact q2, hA a (Array.getElem?_eq_some_iff.mp q3).1⟩, vk_OFof q1 (va_eqt (hw _ (by simp [hSW]))) hA, vk_OFof q1 ht hA, hT⟩⟩
  · exact ⟨(0, 0), fun h => absurd h hj⟩
theorem ints_of {args : Array Value} {s : State} {n : String} {l : List Int} (hl : l.length < 100) (hw : ∀ e ∈ hIW n l, e.before args s = true) : ∃ t : Nat, (Term.static "SpaceHouse" n "[I").eval args s none [] s = some (.ref t) ∧ va_T .int t l.length (fun k => .int (Int32.ofInt (l.getD k 0))) (fun a => s.heap.size ≤ a) s s.heap :=
  va_Tof (by omega) (hw _ (by simp [hIW])) (va_eqt (hw _ (by simp [hIW]))) (fun k hk => va_eqt (hw _ (List.mem_append_right _ (List.mem_map.mpr ⟨k, List.mem_range.mpr hk, rfl⟩)))) (fun a h1 h2 => by omega)
/-- the small machine's memory at the start: script, tables, String constants -/
def hσ0 (L : Nat) (xs : Nat → Int) : hM := (hK, 0,
  (fun a => if a = 0 then some (Sum.inr (0, L)) else if a = 2 then some (Sum.inr (0, 4)) else if a = 3 then some (Sum.inr (0, 4)) else if 4 ≤ a ∧ a < 4 + 2 * hNS then (if a % 2 = 0 then some (Sum.inl 10) else some (Sum.inr (1, hTl ((a - 4) / 2)))) else none),
  (fun a k => if a = 0 then xs k else if a = 2 then hUN.getD k 0 else if a = 3 then hND.getD k 0 else if 4 ≤ a ∧ a < 4 + 2 * hNS ∧ a % 2 = 1 then (hTb.getD ((a - 4) / 2) []).getD k 0 else 0),
  (fun a k => if 4 ≤ a ∧ a < 4 + 2 * hNS ∧ a % 2 = 0 ∧ k = 0 then some (a + 1) else none))
def hρ (N0 b fm un nd : Nat) (ad : Nat → Nat × Nat) (a : Nat) : Nat :=
  if a < hK then (if a = 1 then fm else if a = 2 then un else if a = 3 then nd else if 4 ≤ a ∧ a < 4 + 2 * hNS then (if a % 2 = 0 then (ad ((a - 4) / 2)).1 else (ad ((a - 4) / 2)).2) else b) else N0 + (a - hK)

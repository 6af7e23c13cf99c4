/-! The class's servers: a wstat of a tree's file. -/
section XWSTJ
variable {fb : Bool} {d S a c0 rp mb m0 N M fa pr bb pa : Nat} {σ0 σ σ' : hM} {W W1 W2 W3 P Q : qR} {R R1 R2 : rR} {b i k x z v s e w f u p g ln K T U C c y off cnt n md tb j m sv nv mr lr e0 ok : Int} {ord l l2 nm lo D L li : List Int} {t : Nat → Nat} {F : Int → Int}
/-- the name's refusal -/
def nrE (P : qR) (s n u y : Int) (nm : List Int) : Int := if 0 < y ∧ n = 0 then 3 else if 0 < y ∧ ¬ nmOk nm = true then 5 else if 0 < y ∧ (0 ≤ qFind P s (P 2290 (64 * s + n)) nm ∧ ¬ qFind P s (P 2290 (64 * s + n)) nm = n) then 4 else if 0 < y ∧ qMv P s (P 2290 (64 * s + n)) u 2 = 0 then 3 else 0
def lrE (P : qR) (s n u ln : Int) : Int := if qMode P s n < 0 then 10 else if qMv P s n u 2 = 0 then 3 else if ¬ (0 ≤ ln ∧ ln ≤ 600) ∨ 8192 < P 2301 s - P 2297 (64 * s + n) + ln then 12 else 0
def mrE (P : qR) (s n u md : Int) : Int := if ¬ u = P 2294 (64 * s + n) then 3 else if ¬ and32 (xor32 (w32 md) (P 2293 (64 * s + n))) (-1073742336) = 0 ∨ (qMode P s n < 0 ∧ ¬ and32 (xor32 (w32 md) (P 2293 (64 * s + n))) 1073741824 = 0) then 16 else 0
theorem qChg_chain : qChg P s n u md ln y nm = if ¬ nrE P s n u y nm = 0 then nrE P s n u y nm else if ¬ ln = -1 ∧ ¬ lrE P s n u ln = 0 then lrE P s n u ln else if ¬ md = 4294967295 then mrE P s n u md else 0 := by
  unfold qChg nrE
  by_cases c1 : 0 < y ∧ n = 0
  · simp only [if_pos c1]
    rfl
  simp only [if_neg c1]
  by_cases c2 : 0 < y ∧ ¬ nmOk nm = true
  · simp only [if_pos c2]
    rfl
  simp only [if_neg c2]
  by_cases c3 : 0 < y ∧ (0 ≤ qFind P s (P 2290 (64 * s + n)) nm ∧ ¬ qFind P s (P 2290 (64 * s + n)) nm = n)
  · simp only [if_pos c3]
    rfl
  simp only [if_neg c3]
  by_cases c4 : 0 < y ∧ qMv P s (P 2290 (64 * s + n)) u 2 = 0
  · simp only [if_pos c4]
    rfl
  simp only [if_neg c4]
  rw [if_neg (show ¬ ¬ True from fun c => c trivial)]
  obtain ⟨a1, h1⟩ : ∃ q, and32 (xor32 (w32 md) (P 2293 (64 * s + n))) (-1073742336) = q := ⟨_, rfl⟩
  obtain ⟨a2, h2⟩ : ∃ q, and32 (xor32 (w32 md) (P 2293 (64 * s + n))) 1073741824 = q := ⟨_, rfl⟩
  unfold lrE mrE
  rw [h1, h2]
  (repeat' split) <;> omega
end XWSTJ

/-! ls: the entries that a directory's reads tell. -/
theorem T_376_83 : hTab 376 83 = some ((0, 0, 11, []), 85) := rfl
theorem T_376_85 : hTab 376 85 = some ((4, 7, 0, []), 87) := rfl
theorem T_376_87 : hTab 376 87 = some ((3, 7, 0, []), 89) := rfl
theorem T_376_89 : hTab 376 89 = some ((0, 0, 11, []), 91) := rfl
theorem T_376_91 : hTab 376 91 = some ((3, 6, 0, []), 93) := rfl
theorem T_376_93 : hTab 376 93 = some ((10, 0, 0, []), 94) := rfl
theorem T_376_94 : hTab 376 94 = some ((19, 3, Int.ofNat 193, []), 97) := rfl
theorem T_376_97 : hTab 376 97 = some ((3, 0, 2, []), 98) := rfl
theorem T_376_98 : hTab 376 98 = some ((3, 7, 0, []), 100) := rfl
theorem T_376_100 : hTab 376 100 = some ((0, 0, 41, []), 102) := rfl
theorem T_376_102 : hTab 376 102 = some ((10, 0, 0, []), 103) := rfl
theorem T_376_103 : hTab 376 103 = some ((0, 0, 2, []), 104) := rfl
theorem T_376_104 : hTab 376 104 = some ((31, 339, 0, []), 107) := rfl
theorem T_376_107 : hTab 376 107 = some ((15, 0, 0, []), 108) := rfl
theorem T_376_108 : hTab 376 108 = some ((4, 8, 0, []), 110) := rfl
theorem T_376_110 : hTab 376 110 = some ((0, 0, 0, []), 111) := rfl
theorem T_376_111 : hTab 376 111 = some ((4, 9, 0, []), 113) := rfl
theorem T_376_113 : hTab 376 113 = some ((3, 9, 0, []), 115) := rfl
theorem T_376_115 : hTab 376 115 = some ((3, 8, 0, []), 117) := rfl
theorem T_376_117 : hTab 376 117 = some ((19, 3, Int.ofNat 144, []), 120) := rfl
theorem T_376_120 : hTab 376 120 = some ((3, 0, 2, []), 121) := rfl
theorem T_376_121 : hTab 376 121 = some ((3, 1, 0, []), 122) := rfl
theorem T_376_122 : hTab 376 122 = some ((3, 0, 2, []), 123) := rfl
theorem T_376_123 : hTab 376 123 = some ((24, 17, Int.ofNat 5, []), 126) := rfl
theorem T_376_126 : hTab 376 126 = some ((3, 7, 0, []), 128) := rfl
theorem T_376_128 : hTab 376 128 = some ((0, 0, 43, []), 130) := rfl
theorem T_376_130 : hTab 376 130 = some ((10, 0, 0, []), 131) := rfl
theorem T_376_131 : hTab 376 131 = some ((3, 9, 0, []), 133) := rfl
theorem T_376_133 : hTab 376 133 = some ((10, 0, 0, []), 134) := rfl
theorem T_376_134 : hTab 376 134 = some ((26, 0, 0, []), 135) := rfl
theorem T_376_135 : hTab 376 135 = some ((31, 351, 0, []), 138) := rfl
theorem T_376_138 : hTab 376 138 = some ((5, 9, 1, []), 141) := rfl
theorem T_376_141 : hTab 376 141 = some ((22, 0, Int.ofNat 113, []), 144) := rfl
theorem T_376_144 : hTab 376 144 = some ((3, 0, 2, []), 145) := rfl
theorem T_376_145 : hTab 376 145 = some ((24, 17, Int.ofNat 5, []), 148) := rfl
theorem T_376_148 : hTab 376 148 = some ((3, 7, 0, []), 150) := rfl
theorem T_376_150 : hTab 376 150 = some ((0, 0, 24, []), 152) := rfl
theorem T_376_152 : hTab 376 152 = some ((10, 0, 0, []), 153) := rfl
theorem T_376_153 : hTab 376 153 = some ((26, 0, 0, []), 154) := rfl
theorem T_376_154 : hTab 376 154 = some ((0, 0, 128, []), 157) := rfl
theorem T_376_157 : hTab 376 157 = some ((10, 5, 0, []), 158) := rfl
theorem T_376_158 : hTab 376 158 = some ((18, 0, Int.ofNat 168, []), 161) := rfl
theorem T_376_161 : hTab 376 161 = some ((3, 0, 2, []), 162) := rfl
theorem T_376_162 : hTab 376 162 = some ((3, 1, 0, []), 163) := rfl
theorem T_376_163 : hTab 376 163 = some ((0, 0, 47, []), 165) := rfl
theorem T_376_165 : hTab 376 165 = some ((31, 351, 0, []), 168) := rfl
theorem T_376_168 : hTab 376 168 = some ((3, 0, 2, []), 169) := rfl
theorem T_376_169 : hTab 376 169 = some ((3, 1, 0, []), 170) := rfl
theorem T_376_170 : hTab 376 170 = some ((0, 0, 10, []), 172) := rfl
theorem T_376_172 : hTab 376 172 = some ((31, 351, 0, []), 175) := rfl
theorem T_376_175 : hTab 376 175 = some ((3, 7, 0, []), 177) := rfl
theorem T_376_177 : hTab 376 177 = some ((0, 0, 2, []), 178) := rfl
theorem T_376_178 : hTab 376 178 = some ((3, 0, 2, []), 179) := rfl
theorem T_376_179 : hTab 376 179 = some ((3, 7, 0, []), 181) := rfl
theorem T_376_181 : hTab 376 181 = some ((0, 0, 2, []), 182) := rfl
theorem T_376_182 : hTab 376 182 = some ((31, 339, 0, []), 185) := rfl
theorem T_376_185 : hTab 376 185 = some ((15, 0, 0, []), 186) := rfl
theorem T_376_186 : hTab 376 186 = some ((10, 0, 0, []), 187) := rfl
theorem T_376_187 : hTab 376 187 = some ((10, 0, 0, []), 188) := rfl
theorem T_376_188 : hTab 376 188 = some ((4, 7, 0, []), 190) := rfl
theorem T_376_190 : hTab 376 190 = some ((22, 0, Int.ofNat 87, []), 193) := rfl
theorem mN_376 : hmN 376 = 2 := by decide +kernel
theorem mL_376 : hmL 376 = 10 := by decide +kernel
theorem mK_376 : hmK 376 = 1 := by decide +kernel
theorem mO_376 : hmO 376 = 17 := by decide +kernel
/-- what is told of a read's bytes: a name, / behind a directory's, and the line's end -/
def lsT (D : List Int) : List Int := if D.length = 0 then [] else seg (lg D) 43 (nu (lg D) 41 2).toNat ++ ((if and32 (lg D 24) 128 = 0 then [] else [47]) ++ [10])
def oL (p : Int) (P : qR) (D : List Int) : qR := gOut P p (lsT D)
def cList (P : qR) (p : Int) (c : Ch) : Int × qR := if 0 < tE P c.1 (mOpen c.2.1 0) then (tE P c.1 (mOpen c.2.1 0), tP P c.1 (mOpen c.2.1 0)) else ((kRdl (oL p) c.1 c.2.1 65 (tP P c.1 (mOpen c.2.1 0)) 0).1, (kRdl (oL p) c.1 c.2.1 65 (tP P c.1 (mOpen c.2.1 0)) 0).2.1)
/-- the fid's file, if it is there, is a directory -/
def isD (P : qR) (s f : Int) : Prop := 0 ≤ qFid P s 0 f → P 2310 (qFid P s 0 f) = 0 → qMode P s (P 2306 (qFid P s 0 f)) < 0
/-- the bytes of one STAT, or none -/
def stOK (D : List Int) : Prop := D = [] ∨ ∃ ns : Int, 0 ≤ ns ∧ ns ≤ 12 ∧ (D.length : Int) = 58 + ns ∧ nu (lg D) 41 2 = ns ∧ nu (lg D) 0 2 = 56 + ns
def lsMu (P : qR) (s f off : Int) : Int := if P 2310 (qFid P s 0 f) = 0 then rdMu P s f off else 0
section MLS
variable {fb : Bool} {d : Nat} {σ0 σ : hM} {P Q R S S1 S2 : qR} {T U s w g u p k e t z o thr pt off n fd : Int} {l l1 l2 nm wd A D : List Int} {h : List Ch} {a f : Int → Int} {x : Int × Int} {c : Ch}
theorem nu_cong {a b : Int → Int} {i j : Int} : ∀ (n : Nat), (∀ k : Nat, k < n → a (i + k) = b (j + k)) → nu a i n = nu b j n
  | 0, _ => rfl
  | n + 1, h => by
    show nu a i n + a (i + n) * 256 ^ n = nu b j n + b (j + n) * 256 ^ n
    rw [nu_cong n (fun k hk => h k (by omega)), h n (by omega)]
theorem statL_w (hn : 0 ≤ qNs P s n ∧ qNs P s n ≤ 12) : nu (lg (statL P s n)) 41 2 = qNs P s n ∧ nu (lg (statL P s n)) 0 2 = 56 + qNs P s n := by
  obtain ⟨ns, hns⟩ : ∃ ns, qNs P s n = ns := ⟨_, rfl⟩
  rw [hns] at hn ⊢
  constructor
  · have e : statL P s n = (leb 2 (58 + ns - 2) ++ leb 2 0 ++ leb 4 0 ++ qidL P s n ++ leb 4 (qMode P s n) ++ leb 4 0 ++ leb 4 0 ++ leb 8 (qLen P s n)) ++ (leb 2 ns ++ (nmL P s n ns.toNat ++ usrL (qUid P s n) ++ usrL (qGid P s n) ++ usrL (qMuid P s n))) := by
      unfold statL
      rw [hns]
      simp only [List.append_assoc]
    rw [e]
    exact nu_lg2 2 rfl (by rw [show (256 : Int) ^ 2 = 65536 by decide]; omega)
  · have e : statL P s n = [] ++ (leb 2 (58 + ns - 2) ++ (leb 2 0 ++ leb 4 0 ++ qidL P s n ++ leb 4 (qMode P s n) ++ leb 4 0 ++ leb 4 0 ++ leb 8 (qLen P s n) ++ leb 2 ns ++ nmL P s n ns.toNat ++ usrL (qUid P s n) ++ usrL (qGid P s n) ++ usrL (qMuid P s n))) := by
      unfold statL
      rw [hns]
      simp only [List.append_assoc, List.nil_append]
    rw [e, show (56 + ns : Int) = 58 + ns - 2 by omega]
    exact nu_lg2 2 rfl (by rw [show (256 : Int) ^ 2 = 65536 by decide]; omega)
theorem stOK_statL (hn : 0 ≤ qNs P s n ∧ qNs P s n ≤ 12) : stOK (statL P s n) := Or.inr ⟨qNs P s n, hn.1, hn.2, statL_len hn.1, (statL_w hn).1, (statL_w hn).2⟩
theorem isD_row (h : isD P s fd) (h1 : ∀ k, Q 2304 k = P 2304 k) (h2 : ∀ k, Q 2305 k = P 2305 k) (h3 : ∀ k, Q 2310 k = P 2310 k) (h4 : ∀ k, Q 2306 k = P 2306 k) (h5 : ∀ k, Q 2293 k = P 2293 k) : isD Q s fd ∧ qFid Q s 0 fd = qFid P s 0 fd := by
  have e : ∀ (m : Nat) (k : Int), fiFid Q fd m k = fiFid P fd m k := by
    intro m
    induction m with
    | zero => intro k; rfl
    | succ m ih =>
      intro k
      unfold fiFid
      rw [ih, h1, h2]
  have e1 : qFid Q s 0 fd = qFid P s 0 fd := e 48 _
  refine ⟨fun a b => ?_, e1⟩
  rw [e1] at a b ⊢
  rw [h3] at b
  rw [h4]
  have e2 : ∀ n, qMode Q s n = qMode P s n := fun n => by
    unfold qMode
    rw [h5]
  rw [e2]
  exact h a b
theorem rd_gone (hf : 0 ≤ fd ∧ fd ≤ 4294967295) (ho : 0 ≤ off ∧ off ≤ 9223372036854775807) (h : tE P s (mRead fd off 100) = 0) : 0 ≤ qFid P s 0 fd ∧ P 2310 (qFid P s 0 fd) = 0 := by
  obtain ⟨h1, h2⟩ := tE_0 h ⟨by show 3 ≤ 19; decide, by show 19 ≤ 416; decide⟩
  have e0 : lg (mRead fd off 100) 0 = 116 := rfl
  rw [e0] at h1
  obtain ⟨P1, hP1⟩ : ∃ P1, gM1 P (seg (msgA (mRead fd off 100)) 0 (4 + ((mRead fd off 100).length : Int)).toNat) = P1 := ⟨_, rfl⟩
  rw [hP1] at h1
  have hr1 : RF rdR1 P1 P := by rw [← hP1]; exact gM1_rf
  have h3 : rdErr P1 s 0 (msgA (mRead fd off 100)) (4 + ((mRead fd off 100).length : Int)) = 0 := h1
  have hz : (4 + ((mRead fd off 100).length : Int)) = 23 := rfl
  unfold rdErr at h3
  rw [if_neg (fun q => q hz), mRead_f hf, mRead_o ho, mRead_n (by decide)] at h3
  obtain ⟨g1, g2, g3⟩ := rdX_0 h3
  rw [qFid_rf hr1] at g1 g2
  rw [hr1 2310 _ rfl] at g2
  exact ⟨g1, g2⟩
theorem rd_dir (hG : GI T U P) (hs : 0 ≤ s ∧ s < 3) (hD : isD P s fd) (hf : 0 ≤ fd ∧ fd ≤ 4294967295) (ho : 0 ≤ off ∧ off ≤ 9223372036854775807) (h : tE P s (mRead fd off 100) = 0) : stOK (rdB (tA P s (mRead fd off 100))) := by
  obtain ⟨g1, g2⟩ := rd_gone hf ho h
  obtain ⟨P1, hr1, -, hrm, -, hb, -, -, -⟩ := rd_sem hf ho h
  have hm := hD g1 g2
  rw [hb, qFid_rf hr1]
  have hk := qFid_in (P := P) (s := s) (c := 0) (v := fd) hs (by decide) g1
  obtain ⟨k, hk0⟩ : ∃ k, qFid P s 0 fd = k := ⟨_, rfl⟩
  rw [hk0] at hk hm ⊢
  have hfn := fid_node hG hs (k := k) (by omega)
  have e1 : P1 2306 k = P 2306 k := hr1 _ _ rfl
  obtain ⟨n, hn⟩ : ∃ n, P 2306 k = n := ⟨_, rfl⟩
  rw [hn] at e1 hfn hm
  have hm1 : qMode P1 s n < 0 := by rw [qMode_rf hr1]; exact hm
  have hd : s = 2 → 0 < n → n % 16 = 0 := fun h2 h0 => by
    unfold qMode at hm
    rw [if_neg (by omega)] at hm
    split at hm
    · omega
    · split at hm
      · rename_i q; omega
      · split at hm <;> omega
  have hqn : ∀ e, qNs P1 s e = qNs P s e := fun e => by
    unfold qNs
    rw [hr1 2299 _ rfl]
  unfold rdD
  rw [e1, if_pos hm1]
  unfold rdR
  rw [e1]
  obtain ⟨x, hx⟩ : ∃ x, (if off = 0 then 0 else P1 2312 k) = x := ⟨_, rfl⟩
  have brm : 0 ≤ P 2312 k ∧ P 2312 k ≤ 64 := IV.a hG.iv 2312 0 288 rfl rfl rfl (by omega) (by omega)
  have hx0 : 0 ≤ x := by
    rw [← hx]
    split
    · exact Int.le_refl _
    · rw [hrm]; exact brm.1
  rw [hx]
  show stOK (rdE P1 s n (5 + 1) x 100).2.2
  have hq := qEnt_ok (P := P1) hfn.1 hd hx0
  unfold rdE
  by_cases q : 0 ≤ qEnt P1 s n x ∧ 58 + qNs P1 s (qEnt P1 s n x) ≤ 100
  · rw [if_pos q]
    have hns := qNs_i hG.iv (hq.2 q.1)
    rw [← hqn] at hns
    show stOK (statL P1 s (qEnt P1 s n x) ++ (rdE P1 s n 5 (x + 1) (100 - (58 + qNs P1 s (qEnt P1 s n x)))).2.2)
    have e5 : (rdE P1 s n 5 (x + 1) (100 - (58 + qNs P1 s (qEnt P1 s n x)))).2.2 = [] := by
      show (rdE P1 s n (4 + 1) (x + 1) (100 - (58 + qNs P1 s (qEnt P1 s n x)))).2.2 = []
      unfold rdE
      by_cases q2 : 0 ≤ qEnt P1 s n (x + 1) ∧ 58 + qNs P1 s (qEnt P1 s n (x + 1)) ≤ 100 - (58 + qNs P1 s (qEnt P1 s n x))
      · have h2 := (qEnt_ok (P := P1) hfn.1 hd (show 0 ≤ x + 1 by omega)).2 q2.1
        have h3 := qNs_i hG.iv h2
        rw [← hqn] at h3
        omega
      · rw [if_neg q2]
    rw [e5, List.append_nil]
    exact stOK_statL hns
  · rw [if_neg q]
    exact Or.inl rfl
theorem mOpen_m {m : Int} (hm : 0 ≤ m ∧ m ≤ 255) : nu (msgA (mOpen fd m)) 11 1 = m := by
  have e : leb 4 (4 + ((mOpen fd m).length : Int)) ++ mOpen fd m = (leb 4 (4 + ((mOpen fd m).length : Int)) ++ (leb 1 112 ++ (leb 2 1 ++ leb 4 fd))) ++ (leb 1 m ++ []) := by
    conv => lhs; rhs; unfold mOpen
    simp only [List.append_assoc, List.append_nil]
  unfold msgA
  rw [e]
  exact nu_lg2 1 rfl (by rw [show (256 : Int) ^ 1 = 256 by decide]; omega)
def opR1 : List Nat := [2316, 2317, 2309, 2311, 2312, 2281]
theorem gM1_rfo {W : List Int} : RF opR1 (gM1 P W) P := fun f k hf => gM1_f (fun q => by rw [q] at hf; exact absurd hf (by decide)) (fun q => by rw [q] at hf; exact absurd hf (by decide)) (fun q => by rw [q] at hf; exact absurd hf (by decide))
theorem gOpen_rf {m : Int} : RF opR1 (gOpen P k m) P := RF_up (RF_up (RF_up RF_rfl rfl) rfl) rfl
/-- an open to read changes no file and no fid's file -/
theorem op_rf : RF opR1 (tP P s (mOpen fd 0)) P := by
  unfold tP trP
  refine RF_tr gM1_rfo ?_
  obtain ⟨P1, hP1⟩ : ∃ P1, gM1 P (seg (msgA (mOpen fd 0)) 0 (4 + ((mOpen fd 0).length : Int)).toNat) = P1 := ⟨_, rfl⟩
  rw [hP1]
  have hr1 : RF opR1 P1 P := by rw [← hP1]; exact gM1_rfo
  refine RF_tr ?_ hr1
  unfold srvP
  split
  · exact RF_rfl
  · split
    · exact RF_rfl
    · rw [msgA_4 (by show 1 ≤ 8; decide), show lg (mOpen fd 0) 0 = 112 from rfl]
      show RF opR1 (if opE P1 s 0 (msgA (mOpen fd 0)) (4 + ((mOpen fd 0).length : Int)) = 0 then opP P1 s 0 (msgA (mOpen fd 0)) else P1) P1
      split
      · unfold opP opG
        rw [mOpen_m (by decide), if_neg (fun c => c.1 (by decide))]
        exact gOpen_rf
      · exact RF_rfl
theorem isD_op (h : isD P s fd) : isD (tP P s (mOpen fd 0)) s fd := (isD_row h (fun k => op_rf 2304 k rfl) (fun k => op_rf 2305 k rfl) (fun k => op_rf 2310 k rfl) (fun k => op_rf 2306 k rfl) (fun k => op_rf 2293 k rfl)).1
theorem isD_rd (hf : 0 ≤ fd ∧ fd ≤ 4294967295) (ho : 0 ≤ off ∧ off ≤ 9223372036854775807) (he : tE P s (mRead fd off 100) = 0) (h : isD P s fd) : isD (tP P s (mRead fd off 100)) s fd ∧ qFid (tP P s (mRead fd off 100)) s 0 fd = qFid P s 0 fd ∧ ∀ k, tP P s (mRead fd off 100) 2310 k = P 2310 k := by
  obtain ⟨P1, -, -, -, -, -, hr, -, -⟩ := rd_sem hf ho he
  exact ⟨(isD_row h (fun k => hr 2304 k rfl) (fun k => hr 2305 k rfl) (fun k => hr 2310 k rfl) (fun k => hr 2306 k rfl) (fun k => hr 2293 k rfl)).1, (isD_row h (fun k => hr 2304 k rfl) (fun k => hr 2305 k rfl) (fun k => hr 2310 k rfl) (fun k => hr 2306 k rfl) (fun k => hr 2293 k rfl)).2, fun k => hr 2310 k rfl⟩
theorem lsMu_0 (h : isD P s fd) : 0 ≤ lsMu P s fd 0 ∧ lsMu P s fd 0 ≤ 64 := by
  unfold lsMu
  split
  · rename_i q
    unfold rdMu
    split
    · decide
    · rw [if_pos (h (by omega) q), if_pos rfl]
      decide
  · decide
/-- a name's signs are told -/
theorem m_ls_name {e0 fl : Int} (hp : 0 ≤ p ∧ p < 8) (hz : z ≤ 12) {Q : Option AV → hM → Prop} : ∀ (r : List Int) (i : Int) (σ : hM) (P : qR), i + (r.length : Int) = z → 0 ≤ i → (∀ b ∈ r, 0 ≤ b ∧ b ≤ 255) → (∀ k : Nat, k < r.length → S 2286 (54 + i + (k : Int)) = r.getD k 0) → PM σ0 P S σ → KS T U P S l h → (∀ σ : hM, PM σ0 (gOut P p r) S σ → KS T U (gOut P p r) S l h → WP fb (d + 1) 376 144 [some (vR (some 2281)), some (vI p), some (vI 0), some (vI e0), some (vI off), some (vI fl), some (vI n), some (vI 11), some (vI z), some (vI z)] [] σ Q) → WP fb (d + 1) 376 113 [some (vR (some 2281)), some (vI p), some (vI 0), some (vI e0), some (vI off), some (vI fl), some (vI n), some (vI 11), some (vI z), some (vI i)] [] σ Q := by
  intro r
  induction r with
  | nil =>
    intro i σ P h1 h2 hb ha hP hK hQ
    have h1 : i + ((0 : Nat) : Int) = z := h1
    have hi : i = z := by omega
    subst hi
    have hgo := hQ σ hP hK
    refine x_li (z := i) T_376_113 rfl ?_
    refine x_li (z := i) T_376_115 rfl ?_
    refine x_ic2 T_376_117 (fun _ => ?_) (fun h => absurd (show i ≤ i by omega) h)
    exact hgo
  | cons b r ih =>
    intro i σ P h1 h2 hb ha hP hK hQ
    have h1 : i + ((r.length + 1 : Nat) : Int) = z := h1
    have hx : S 2286 (54 + i) = b := by
      have := ha 0 (Nat.succ_pos _)
      rw [show 54 + i + ((0 : Nat) : Int) = 54 + i by omega] at this
      exact this
    have hb0 := hb b List.mem_cons_self
    have ha2 : ∀ k : Nat, k < r.length → S 2286 (54 + (i + 1) + (k : Int)) = r.getD k 0 := fun k hk => by
      have := ha (k + 1) (Nat.succ_lt_succ hk)
      rw [show 54 + i + ((k + 1 : Nat) : Int) = 54 + (i + 1) + (k : Int) by omega] at this
      exact this
    have ht := m_tell (fb := fb) (d := d) (b := b) hP hK.1.iv hp
    have hgo := fun (σ : hM) (hP : PM σ0 (gTell P p b) S σ) => ih (i + 1) σ (gTell P p b) (by omega) (by omega) (fun b hm => hb b (List.mem_cons_of_mem _ hm)) ha2 hP (hK.tell hp hb0) hQ
    refine x_li (z := i) T_376_113 rfl ?_
    refine x_li (z := z) T_376_115 rfl ?_
    refine x_ic2 T_376_117 (fun h => absurd (show z ≤ i from h) (by omega)) (fun _ => ?_)
    refine x_lr (z := some 2281) T_376_120 rfl ?_
    refine x_li (z := p) T_376_121 rfl ?_
    refine x_lr (z := some 2281) T_376_122 rfl ?_
    refine x_gR (z := some 2286) T_376_123 F_17_5 (PM.t hP) (PM.r hP 5 2286 rfl) ?_
    refine x_li (z := 11) T_376_126 rfl ?_
    refine x_ic T_376_128 ?_
    refine x_ib (w := 54) T_376_130 (fun h => absurd h.1 (by decide)) (by decide) ?_
    refine x_li (z := i) T_376_131 rfl ?_
    refine x_ib (w := (54 + i)) T_376_133 (fun h => absurd h.1 (by decide)) (w32_id (by omega) (by omega)) ?_
    refine x_alI (z := b) T_376_134 (by decide) (PM.ta hP 2286 0 512 rfl rfl) (by omega) (by omega) (Eq.trans (PM.aS hP 2286 rfl rfl (by omega)) hx) ?_
    refine x_cv3 T_376_135 mN_351 mL_351 (Nat.le_of_ble_eq_true rfl) mO_351 (PM.t hP) (Nat.le_of_ble_eq_true rfl) (ht) ?_
    clear hP ht
    rintro _ σ ⟨rfl, hP⟩
    refine cV ?_
    refine x_inc (w := (i + 1)) (ls1 := [some (vR (some 2281)), some (vI p), some (vI 0), some (vI e0), some (vI off), some (vI fl), some (vI n), some (vI 11), some (vI z), some (vI (i + 1))]) T_376_138 rfl (w32_id (by omega) (by omega)) rfl ?_
    refine x_goto T_376_141 ?_
    exact hgo σ hP
theorem seg_byt {F : Int → Int} (h : ∀ i : Int, o ≤ i → i < o + n → 0 ≤ F i ∧ F i ≤ 255) : ∀ b ∈ seg F o n.toNat, 0 ≤ b ∧ b ≤ 255 := fun b hb => by
  obtain ⟨i, hi, rfl⟩ := List.mem_iff_getElem.mp hb
  rw [seg_len] at hi
  have e := lg_seg F n.toNat o (i : Int) (by omega) (by omega)
  unfold lg at e
  rw [Int.toNat_natCast, List.getD_eq_getElem?_getD, List.getElem?_eq_getElem (by rw [seg_len]; omega)] at e
  have e : (seg F o n.toNat)[i] = F (o + i) := e
  rw [e]
  exact h _ (by omega) (by omega)
/-- one STAT -/
theorem m_ls_stat {e0 fl : Int} (hp : 0 ≤ p ∧ p < 8) (hP : PM σ0 P S σ) (hK : KS T U P S l h) (hA : AN S A) (hD : stOK (rdB A)) (hn : ((rdB A).length : Int) = n) (h11 : (A.length : Int) = 11 + n) {Q : Option AV → hM → Prop} (hQ : ∀ (σ : hM) (l7 l8 l9 : Option AV), PM σ0 (oL p P (rdB A)) S σ → KS T U (oL p P (rdB A)) S l h → WP fb (d + 1) 376 193 [some (vR (some 2281)), some (vI p), some (vI 0), some (vI e0), some (vI off), some (vI fl), some (vI n), l7, l8, l9] [] σ Q) {l7 l8 l9 : Option AV} : WP fb (d + 1) 376 83 [some (vR (some 2281)), some (vI p), some (vI 0), some (vI e0), some (vI off), some (vI fl), some (vI n), l7, l8, l9] [] σ Q := by
  rcases hD with h0 | ⟨ns, n1, n2, n3, n4, n5⟩
  · rw [h0] at hn hQ
    have hn : ((0 : Nat) : Int) = n := hn
    have hn0 : n = 0 := by omega
    have hgo := hQ σ (some (vI 11)) l8 l9 hP hK
    rw [hn0] at hgo ⊢
    refine x_ic T_376_83 ?_
    refine x_si (ls1 := [some (vR (some 2281)), some (vI p), some (vI 0), some (vI e0), some (vI off), some (vI fl), some (vI 0), some (vI 11), l8, l9]) T_376_85 rfl ?_
    refine x_li (z := 11) T_376_87 rfl ?_
    refine x_ic T_376_89 ?_
    refine x_li (z := 0) T_376_91 rfl ?_
    refine x_ib (w := 11) T_376_93 (fun h => absurd h.1 (by decide)) (by decide) ?_
    refine x_ic2 T_376_94 (fun _ => ?_) (fun h => absurd (show 11 ≤ (11 : Int) by decide) h)
    exact hgo
  · have hlg : ∀ i : Int, 0 ≤ i → lg (rdB A) i = lg A (11 + i) := fun i hi => lg_drop hi
    have eD : ∀ i : Int, 0 ≤ i → i < 58 + ns → S 2286 (11 + i) = lg (rdB A) i := fun i a b => by
      rw [hlg i a]
      exact hA.2.1 _ (by omega) (by omega)
    have t1 : nu (S 2286) 52 2 = ns := by
      rw [← n4]
      exact nu_cong 2 (fun k hk => by
        rw [show (52 : Int) + (k : Int) = 11 + (41 + (k : Int)) by omega]
        exact eD _ (by omega) (by omega))
    have t2 : nu (S 2286) 11 2 = 56 + ns := by
      rw [← n5]
      exact nu_cong 2 (fun k hk => by
        rw [show (11 : Int) + (k : Int) = 11 + (0 + (k : Int)) by omega]
        exact eD _ (by omega) (by omega))
    have bA : ∀ i : Int, 0 ≤ i → i < 58 + ns → 0 ≤ lg (rdB A) i ∧ lg (rdB A) i ≤ 255 := fun i a b => by
      rw [hlg i a]
      exact hA.2.2.2 _ (by omega)
    obtain ⟨y, hy⟩ : ∃ y, lg (rdB A) 24 = y := ⟨_, rfl⟩
    have hy2 : S 2286 35 = y := (eD 24 (by decide) (by omega)).trans hy
    have by0 := bA 24 (by decide) (by omega)
    rw [hy] at by0
    have hlen : ¬ (rdB A).length = 0 := by omega
    unfold oL at hQ
    unfold lsT at hQ
    rw [if_neg hlen, n4, hy, gOut_app, gOut_app] at hQ
    have hrb : ∀ b ∈ seg (lg (rdB A)) 43 ns.toNat, 0 ≤ b ∧ b ≤ 255 := seg_byt (fun i a b => bA i (by omega) (by omega))
    have hnn : n = 58 + ns := by omega
    have hend : ∀ (σ : hM) (Z : qR), PM σ0 Z S σ → KS T U Z S l h → (∀ (σ : hM) (l7 l8 l9 : Option AV), PM σ0 (gTell Z p 10) S σ → KS T U (gTell Z p 10) S l h → WP fb (d + 1) 376 193 [some (vR (some 2281)), some (vI p), some (vI 0), some (vI e0), some (vI off), some (vI fl), some (vI n), l7, l8, l9] [] σ Q) → WP fb (d + 1) 376 168 [some (vR (some 2281)), some (vI p), some (vI 0), some (vI e0), some (vI off), some (vI fl), some (vI n), some (vI 11), some (vI ns), some (vI ns)] [] σ Q := fun σ Z hP hK hq => by
      have ht := m_tell (fb := fb) (d := d) (b := 10) hP hK.1.iv hp
      have hto := fun (σ : hM) (hP : PM σ0 (gTell Z p 10) S σ) => m_told (fb := fb) (d := d) (p := 11) (n := 2) hP hK.2.2.1 (by decide) (by decide) (by decide)
      rw [show ((2 : Int)).toNat = 2 from rfl, t2, w64_id (by omega) (by omega)] at hto
      have hK1 := hK.tell hp (b := 10) (by decide)
      refine x_lr (z := some 2281) T_376_168 rfl ?_
      refine x_li (z := p) T_376_169 rfl ?_
      refine x_ic T_376_170 ?_
      refine x_cv3 T_376_172 mN_351 mL_351 (Nat.le_of_ble_eq_true rfl) mO_351 (PM.t hP) (Nat.le_of_ble_eq_true rfl) (ht) ?_
      clear hP ht
      rintro _ σ ⟨rfl, hP⟩
      refine cV ?_
      refine x_li (z := 11) T_376_175 rfl ?_
      refine x_ic T_376_177 ?_
      refine x_lr (z := some 2281) T_376_178 rfl ?_
      refine x_li (z := 11) T_376_179 rfl ?_
      refine x_ic T_376_181 ?_
      refine x_cv3 T_376_182 mN_339 mL_339 (Nat.le_of_ble_eq_true rfl) mO_339 (PM.t hP) (Nat.le_of_ble_eq_true rfl) (hto σ hP) ?_
      rintro _ σ ⟨rfl, rfl⟩
      refine cL ?_
      refine x_l2i (w := (56 + ns)) T_376_185 (w32_id (by omega) (by omega)) ?_
      refine x_ib (w := (2 + (56 + ns))) T_376_186 (fun h => absurd h.1 (by decide)) (w32_id (by omega) (by omega)) ?_
      refine x_ib (w := (11 + n)) T_376_187 (fun h => absurd h.1 (by decide)) (w32_e (by omega) (by omega) (by omega)) ?_
      refine x_si (ls1 := [some (vR (some 2281)), some (vI p), some (vI 0), some (vI e0), some (vI off), some (vI fl), some (vI n), some (vI (11 + n)), some (vI ns), some (vI ns)]) T_376_188 rfl ?_
      refine x_goto T_376_190 ?_
      refine x_li (z := (11 + n)) T_376_87 rfl ?_
      refine x_ic T_376_89 ?_
      refine x_li (z := n) T_376_91 rfl ?_
      refine x_ib (w := (11 + n)) T_376_93 (fun h => absurd h.1 (by decide)) (w32_id (by omega) (by omega)) ?_
      refine x_ic2 T_376_94 (fun _ => ?_) (fun h => absurd (show (11 + n) ≤ (11 + n) by omega) h)
      exact hq σ _ _ _ hP hK1
    have h144 : ∀ σ : hM, PM σ0 (gOut P p (seg (lg (rdB A)) 43 ns.toNat)) S σ → KS T U (gOut P p (seg (lg (rdB A)) 43 ns.toNat)) S l h → WP fb (d + 1) 376 144 [some (vR (some 2281)), some (vI p), some (vI 0), some (vI e0), some (vI off), some (vI fl), some (vI n), some (vI 11), some (vI ns), some (vI ns)] [] σ Q := fun σ hP hK => by
      by_cases q : and32 y 128 = 0
      · rw [if_pos q] at hQ
        have hgo := hend σ _ hP hK hQ
        refine x_lr (z := some 2281) T_376_144 rfl ?_
        refine x_gR (z := some 2286) T_376_145 F_17_5 (PM.t hP) (PM.r hP 5 2286 rfl) ?_
        refine x_li (z := 11) T_376_148 rfl ?_
        refine x_ic T_376_150 ?_
        refine x_ib (w := 35) T_376_152 (fun h => absurd h.1 (by decide)) (by decide) ?_
        refine x_alI (z := y) T_376_153 (by decide) (PM.ta hP 2286 0 512 rfl rfl) (by omega) (by omega) (Eq.trans (PM.aS hP 2286 rfl rfl (by omega)) hy2) ?_
        refine x_ic T_376_154 ?_
        refine x_ib (w := (and32 y 128)) T_376_157 (fun h => absurd h.1 (by decide)) rfl ?_
        refine x_if T_376_158 (fun _ => ?_) (fun h => absurd (show (and32 y 128) = 0 by exact q) h)
        exact hgo
      · rw [if_neg q] at hQ
        have ht := m_tell (fb := fb) (d := d) (b := 47) hP hK.1.iv hp
        have hK1 := hK.tell hp (b := 47) (by decide)
        have hgo := fun (σ : hM) (hP : PM σ0 (gTell (gOut P p (seg (lg (rdB A)) 43 ns.toNat)) p 47) S σ) => hend σ _ hP hK1 hQ
        refine x_lr (z := some 2281) T_376_144 rfl ?_
        refine x_gR (z := some 2286) T_376_145 F_17_5 (PM.t hP) (PM.r hP 5 2286 rfl) ?_
        refine x_li (z := 11) T_376_148 rfl ?_
        refine x_ic T_376_150 ?_
        refine x_ib (w := 35) T_376_152 (fun h => absurd h.1 (by decide)) (by decide) ?_
        refine x_alI (z := y) T_376_153 (by decide) (PM.ta hP 2286 0 512 rfl rfl) (by omega) (by omega) (Eq.trans (PM.aS hP 2286 rfl rfl (by omega)) hy2) ?_
        refine x_ic T_376_154 ?_
        refine x_ib (w := (and32 y 128)) T_376_157 (fun h => absurd h.1 (by decide)) rfl ?_
        refine x_if T_376_158 (fun h => absurd (show (and32 y 128) = 0 from h) (by exact q)) (fun _ => ?_)
        refine x_lr (z := some 2281) T_376_161 rfl ?_
        refine x_li (z := p) T_376_162 rfl ?_
        refine x_ic T_376_163 ?_
        refine x_cv3 T_376_165 mN_351 mL_351 (Nat.le_of_ble_eq_true rfl) mO_351 (PM.t hP) (Nat.le_of_ble_eq_true rfl) (ht) ?_
        clear hP ht
        rintro _ σ ⟨rfl, hP⟩
        refine cV ?_
        exact hgo σ hP
    have h113 := m_ls_name (fb := fb) (d := d) (σ0 := σ0) (S := S) (off := off) (n := n) (e0 := e0) (fl := fl) (z := ns) hp n2 (seg (lg (rdB A)) 43 ns.toNat) 0 σ P (by rw [seg_len]; omega) (by decide) hrb (fun k hk => by
      rw [seg_len] at hk
      have e := lg_seg (lg (rdB A)) ns.toNat 43 (k : Int) (by omega) (by omega)
      rw [show (54 + 0 + (k : Int)) = 11 + (43 + (k : Int)) by omega, eD _ (by omega) (by omega), ← e]
      rfl) hP hK h144
    have hto := m_told (fb := fb) (d := d) (p := 52) (n := 2) hP hK.2.2.1 (by decide) (by decide) (by decide)
    rw [show ((2 : Int)).toNat = 2 from rfl, t1, w64_id (by omega) (by omega)] at hto
    refine x_ic T_376_83 ?_
    refine x_si (ls1 := [some (vR (some 2281)), some (vI p), some (vI 0), some (vI e0), some (vI off), some (vI fl), some (vI n), some (vI 11), l8, l9]) T_376_85 rfl ?_
    refine x_li (z := 11) T_376_87 rfl ?_
    refine x_ic T_376_89 ?_
    refine x_li (z := n) T_376_91 rfl ?_
    refine x_ib (w := (11 + n)) T_376_93 (fun h => absurd h.1 (by decide)) (w32_id (by omega) (by omega)) ?_
    refine x_ic2 T_376_94 (fun h => absurd (show (11 + n) ≤ 11 from h) (by omega)) (fun _ => ?_)
    refine x_lr (z := some 2281) T_376_97 rfl ?_
    refine x_li (z := 11) T_376_98 rfl ?_
    refine x_ic T_376_100 ?_
    refine x_ib (w := 52) T_376_102 (fun h => absurd h.1 (by decide)) (by decide) ?_
    refine x_ic T_376_103 ?_
    refine x_cv3 T_376_104 mN_339 mL_339 (Nat.le_of_ble_eq_true rfl) mO_339 (PM.t hP) (Nat.le_of_ble_eq_true rfl) (hto) ?_
    rintro _ σ ⟨rfl, rfl⟩
    refine cL ?_
    refine x_l2i (w := ns) T_376_107 (w32_id (by omega) (by omega)) ?_
    refine x_si (ls1 := [some (vR (some 2281)), some (vI p), some (vI 0), some (vI e0), some (vI off), some (vI fl), some (vI n), some (vI 11), some (vI ns), l9]) T_376_108 rfl ?_
    refine x_ic T_376_110 ?_
    refine x_si (ls1 := [some (vR (some 2281)), some (vI p), some (vI 0), some (vI e0), some (vI off), some (vI fl), some (vI n), some (vI 11), some (vI ns), some (vI 0)]) T_376_111 rfl ?_
    exact h113
end MLS

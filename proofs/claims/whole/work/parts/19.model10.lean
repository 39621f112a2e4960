/-! rows of long numbers; the vote; the next question -/
def sV (S : Mem) (p : Nat) (f : Nat → Int64) : Mem := (mN S, mK S, mI S, mR S, mA S, u1 (mL S) p f, mQ S)
theorem sL_sV (S : Mem) (p j : Nat) (x : Int64) : sL S p j x = sV S p (vp_updL (mL S p) j x) := by
  refine mem_ext rfl rfl rfl rfl rfl ?_ rfl
  funext a b
  show u2 (mL S) p j x a b = u1 (mL S) p (vp_updL (mL S p) j x) a b
  unfold u2 u1 vp_updL
  by_cases h : a = p
  · subst h
    rw [if_pos rfl, if_pos rfl]
  · rw [if_neg h, if_neg h]
theorem mL_sV (S : Mem) (p : Nat) (f : Nat → Int64) : mL (sV S p f) p = f := by show u1 _ _ _ p = _; unfold u1; rw [if_pos rfl]
theorem sV_sV (S : Mem) (p : Nat) (f g : Nat → Int64) : sV (sV S p f) p g = sV S p g := by
  refine mem_ext rfl rfl rfl rfl rfl ?_ rfl
  funext a
  show u1 (u1 (mL S) p f) p g a = u1 (mL S) p g a
  unfold u1
  by_cases h : a = p
  · rw [if_pos h, if_pos h]
  · rw [if_neg h, if_neg h, if_neg h]
theorem sV_self (S : Mem) (p : Nat) : sV S p (mL S p) = S := by
  refine mem_ext rfl rfl rfl rfl rfl ?_ rfl
  funext a
  show u1 (mL S) p (mL S p) a = mL S a
  unfold u1
  by_cases h : a = p
  · rw [if_pos h, h]
  · rw [if_neg h]
def gl {α : Type} (b f : Nat → α) (n : Nat) : Nat → α := fun j => if j < n then b j else f j
theorem gl_at {α : Type} (b f : Nat → α) {n k : Nat} (h : k < n) : gl b f n k = b k := if_pos h
theorem gl_0 {α : Type} (b f : Nat → α) : gl b f 0 = f := by funext j; exact if_neg (Nat.not_lt_zero j)
theorem gl_updL (b f : Nat → Int64) {n k : Nat} (h : k < n) (x : Int64) : vp_updL (gl b f n) k x = gl (vp_updL b k x) f n := by
  funext j
  unfold vp_updL gl
  by_cases h1 : j = k
  · rw [if_pos h1, if_pos (by omega)]
    exact (if_pos h1).symm
  · rw [if_neg h1]
    by_cases h2 : j < n
    · rw [if_pos h2, if_pos h2]
      exact (if_neg h1).symm
    · rw [if_neg h2, if_neg h2]
theorem gl_sL (b f : Nat → Int64) (k : Nat) : vp_updL (gl b f k) k (b k) = gl b f (k + 1) := by
  funext j
  unfold vp_updL gl
  by_cases h1 : j = k
  · rw [if_pos h1, if_pos (by omega), h1]
  · rw [if_neg h1]
    by_cases h2 : j < k
    · rw [if_pos h2, if_pos (by omega)]
    · rw [if_neg h2, if_neg (by omega)]
theorem gl_upd (b f : Nat → Int32) {n k : Nat} (h : k < n) (x : Int32) : upd (gl b f n) k x = gl (upd b k x) f n := by
  funext j
  unfold upd gl
  by_cases h1 : j = k
  · rw [if_pos h1, if_pos (by omega)]
    exact (if_pos h1).symm
  · rw [if_neg h1]
    by_cases h2 : j < n
    · rw [if_pos h2, if_pos h2]
      exact (if_neg h1).symm
    · rw [if_neg h2, if_neg h2]
theorem gl_s (b f : Nat → Int32) (k : Nat) : upd (gl b f k) k (b k) = gl b f (k + 1) := by
  funext j
  unfold upd gl
  by_cases h1 : j = k
  · rw [if_pos h1, if_pos (by omega), h1]
  · rw [if_neg h1]
    by_cases h2 : j < k
    · rw [if_pos h2, if_pos (by omega)]
    · rw [if_neg h2, if_neg (by omega)]
def vb0 : Nat → Int64 := fun j => if j = 0 then 1000000000 else 0
def vst (q : Int32) (b : Nat → Int64) (k : Nat) : Nat → Int64 := vp_updL (vp_updL b (k + 1) (b (k + 1) + b k * q.toInt64 / 100)) k (vp_updL b (k + 1) (b (k + 1) + b k * q.toInt64 / 100) k - b k * q.toInt64 / 100)
def dnF (q : Int32) : Nat → (Nat → Int64) → (Nat → Int64)
  | 0, b => b
  | c + 1, b => dnF q c (vst q b c)
def upF (q : Int32) : Nat → (Nat → Int64)
  | 0 => vb0
  | m + 1 => dnF q (m + 1) (upF q m)
def smA (b : Nat → Int64) (k0 : Nat) : Nat → Int64
  | 0 => 0
  | c + 1 => smA b k0 c + b (k0 + c)
def vtN (N : Nat) (q : Int32) : Int32 := (smA (upF q N) (N / 2 + 1) (N + 1 - (N / 2 + 1))).toInt32
def vtV (n q : Int32) : Int32 := if inI n 1 9 = true ∧ inI q 0 100 = true then vtN n.toNatClampNeg q else -1000000002
def lcI : Nat → Int32
  | 0 => -1
  | c + 1 => nI c
theorem lcI_p (c : Nat) : nI c + (-1) = lcI c := by
  cases c with
  | zero => decide
  | succ c => exact pk_m1 c
theorem in9 {n : Int32} (h : inI n 1 9 = true) : ∃ j : Nat, 1 ≤ j ∧ j ≤ 9 ∧ n = nI j := by
  have h1 := of_decide_eq_true h
  have h0 : ¬ n < 0 := by
    have := h1.1
    rw [Int32.le_iff_toInt_le] at this
    rw [Int32.lt_iff_toInt_lt]
    have e1 : (1 : Int32).toInt = 1 := rfl
    have e0 : (0 : Int32).toInt = 0 := rfl
    omega
  obtain ⟨j, hj, e⟩ := nI_of2 (M := 9) (n := 9) rfl h0 h1.2
  refine ⟨j, ?_, hj, e⟩
  have := h1.1
  rw [e] at this
  exact n_ge (b := 1) this (by omega) (by decide)
def prt (m a : Int32) : Int32 := if a ≤ m - a then m - a else a
def azF (c : Nat → Int32) (m : Int32) : Nat → Int32 × Int32
  | 0 => (-1, m)
  | s + 1 => if (azF c m s).2 ≤ prt m (c s) then azF c m s else (nI s, prt m (c s))
def adF (c : Nat → Int32) (all : Int32) (s : Nat) : Nat → Int32 := fun j => if j < s then c j + bitI all (nI j) else c j
theorem adF_0 (c : Nat → Int32) (all : Int32) : adF c all 0 = c := by funext j; exact if_neg (Nat.not_lt_zero j)
theorem adF_s (c : Nat → Int32) (all : Int32) (s : Nat) : upd (adF c all s) s (c s + bitI all (nI s)) = adF c all (s + 1) := by
  funext j
  unfold upd adF
  by_cases h1 : j = s
  · rw [if_pos h1, if_pos (by omega), h1]
  · rw [if_neg h1]
    by_cases h2 : j < s
    · rw [if_pos h2, if_pos (by omega)]
    · rw [if_neg h2, if_neg (by omega)]
noncomputable def anT (S : Mem) (nr an : Nat) : Nat → Int32 × (Nat → Int32)
  | 0 => (0, fun _ => 0)
  | k + 1 => if ibF S nr (nI k) an = true then ((anT S nr an k).1 + 1, adF (anT S nr an k).2 (clo nr (mA S 27) (mA S 28) (nI k) (mA S 29 0)) 16) else anT S nr an k
noncomputable def anV (S : Mem) (nr an th : Nat) : Int32 := (azF (anT S nr an (2 ^ nr)).2 (anT S nr an (2 ^ nr)).1 (2 * th)).1
theorem ibF_sW {S : Mem} {f : Nat → Int32} {nr : Nat} {bb : Int32} : ∀ k, ibF (sW S 39 f) nr bb k = ibF S nr bb k
  | 0 => rfl
  | k + 1 => by
    show (ibF (sW S 39 f) nr bb k && ibC (sW S 39 f) nr bb k) = (ibF S nr bb k && ibC S nr bb k)
    rw [ibF_sW k]
    rfl

set_option maxHeartbeats 4000000 in
set_option maxRecDepth 20000 in
theorem lp_X8_vote1 {κ : Kx} {Φ : Option Value → Mem → Prop} (C : Cx RX8 cX8_vote 7 (some .int) 1 false Φ κ) (S : Mem) (hR : Rs S) (f : Nat → Int64) (n q : Int32) (v4 v5 v6 : Value) (K : ∀ v3 : Value, G κ 0 0 (sV S 35 (gl vb0 f 10)) 58 [.ref 25, .int n, .int q, v3, v4, v5, v6] []) : ∀ (m k : Nat), k ≤ 10 → 10 + 1 ≤ k + m → G κ 0 0 (sV S 35 (gl vb0 f k)) 29 [.ref 25, .int n, .int q, .int (nI k), v4, v5, v6] [] := by
  intro m
  induction m with
  | zero => intro k h1 h2; exact absurd h2 (by omega)
  | succ m ih =>
    intro k hk1 hk2
    refine g_iload_3 C dX8_vote_29 rfl ?_
    refine g_bipush (v := 10) C dX8_vote_30 rfl (by decide) ?_
    refine g_icmp_ge (tgt := 58) C dX8_vote_32 rfl (by decide) (fun h32 => ?_) (fun h32 => ?_)
    · skip
      have hk : k = 10 := by have := n_ge (b := 10) h32 (by omega) (by omega); omega
      rw [hk]
      exact K _
    · skip
      refine g_aload_0 C dX8_vote_35 rfl ?_
      have hk : k < 10 := n_lt (b := 10) h32 (by omega) (by omega)
      refine g_getr C 21 dX8_vote_36 rfl rfl rfl fl_X8_41 (hR 25 21 35 rfl) ?_
      refine g_iload_3 C dX8_vote_39 rfl ?_
      refine g_iload_3 C dX8_vote_40 rfl ?_
      refine g_if_ne (tgt := 50) C dX8_vote_41 rfl (by decide) (fun h41 => ?_) (fun h41 => ?_)
      · skip
        refine g_lconst (v := 0) C dX8_vote_50 rfl (by decide) ?_
        refine g_last C dX8_vote_51 rfl rfl (n_in (show k < 10 by omega) (by decide)) ?_
        refine g_iinc_3 (z := 1) C rfl dX8_vote_52 rfl (by decide) ?_
        refine g_goto (tgt := 29) C dX8_vote_55 (by decide) ?_
        rw [nI_clamp (show k < 2 ^ 31 by omega), sL_sV, mL_sV, sV_sV, ← (show vb0 k = 0 from if_neg (fun e => h41 (by rw [e]; rfl))), gl_sL, nI_1]
        exact ih (k + 1) (by omega) (by omega)
      · skip
        refine g_ldc2 C dX8_vote_44 rfl kl_X8_215 ?_
        refine g_goto (tgt := 51) C dX8_vote_47 (by decide) ?_
        refine g_last C dX8_vote_51 rfl rfl (n_in (show k < 10 by omega) (by decide)) ?_
        refine g_iinc_3 (z := 1) C rfl dX8_vote_52 rfl (by decide) ?_
        refine g_goto (tgt := 29) C dX8_vote_55 (by decide) ?_
        rw [nI_clamp (show k < 2 ^ 31 by omega), sL_sV, mL_sV, sV_sV, ← (show vb0 k = 1000000000 from if_pos (n_eq (b := 0) h41 (by omega) (by decide))), gl_sL, nI_1]
        exact ih (k + 1) (by omega) (by omega)

set_option maxHeartbeats 4000000 in
set_option maxRecDepth 20000 in
theorem lp_X8_vote3 {κ : Kx} {Φ : Option Value → Mem → Prop} (C : Cx RX8 cX8_vote 7 (some .int) 1 false Φ κ) (S : Mem) (hR : Rs S) (f : Nat → Int64) (n q : Int32) (m : Int32) : ∀ (c : Nat) (b : Nat → Int64) (v5 v6 : Value), c ≤ 9 → (∀ v4 v5 v6 : Value, G κ 0 0 (sV S 35 (gl (dnF q c b) f 10)) 121 [.ref 25, .int n, .int q, .int m, v4, v5, v6] []) → G κ 0 0 (sV S 35 (gl b f 10)) 68 [.ref 25, .int n, .int q, .int m, .int (lcI c), v5, v6] [] := by
  intro c
  induction c with
  | zero =>
    intro b v5 v6 hc K
    refine g_iload_4 C dX8_vote_68 rfl ?_
    refine g_if_lt (tgt := 121) C dX8_vote_70 rfl (by decide) (fun h70 => ?_) (fun h70 => absurd (show (lcI 0) < 0 by decide) h70)
    exact K _ _ _
  | succ c ih =>
    intro b v5 v6 hc K
    rw [show lcI (c + 1) = nI c from rfl]
    refine g_iload_4 C dX8_vote_68 rfl ?_
    refine g_if_lt (tgt := 121) C dX8_vote_70 rfl (by decide) (fun h70 => absurd h70 (nI_pos (show c < 2147483648 by omega))) (fun h70 => ?_)
    refine g_aload_0 C dX8_vote_73 rfl ?_
    refine g_getr C 21 dX8_vote_74 rfl rfl rfl fl_X8_41 (hR 25 21 35 rfl) ?_
    refine g_iload_4 C dX8_vote_77 rfl ?_
    refine g_lald C dX8_vote_79 rfl rfl (n_in (show c < 10 by omega) (by decide)) ?_
    rw [nI_clamp (show c < 2 ^ 31 by omega), mL_sV, gl_at _ _ (show c < 10 by omega)]
    refine g_iload_2 C dX8_vote_80 rfl ?_
    refine g_i2l C dX8_vote_81 rfl ?_
    refine g_lmul C dX8_vote_82 rfl ?_
    refine g_ldc2 C dX8_vote_83 rfl kl_X8_213 ?_
    refine g_ldiv C dX8_vote_86 rfl (by decide) ?_
    refine g_lstore_5 C rfl dX8_vote_87 rfl ?_
    refine g_aload_0 C dX8_vote_89 rfl ?_
    refine g_getr C 21 dX8_vote_90 rfl rfl rfl fl_X8_41 (hR 25 21 35 rfl) ?_
    refine g_iload_4 C dX8_vote_93 rfl ?_
    refine g_iconst (v := 1) C dX8_vote_95 rfl (by decide) ?_
    refine g_iadd C dX8_vote_96 rfl ?_
    rw [nI_1]
    refine g_dup2 C dX8_vote_97 rfl rfl rfl ?_
    refine g_lald C dX8_vote_98 rfl rfl (n_in (show c + 1 < 10 by omega) (by decide)) ?_
    rw [nI_clamp (show c + 1 < 2 ^ 31 by omega), mL_sV, gl_at _ _ (show c + 1 < 10 by omega)]
    refine g_lload_5 C dX8_vote_99 rfl ?_
    refine g_ladd C dX8_vote_101 rfl ?_
    refine g_last C dX8_vote_102 rfl rfl (n_in (show c + 1 < 10 by omega) (by decide)) ?_
    rw [nI_clamp (show c + 1 < 2 ^ 31 by omega), sL_sV, mL_sV, sV_sV, gl_updL _ _ (show c + 1 < 10 by omega)]
    refine g_aload_0 C dX8_vote_103 rfl ?_
    refine g_getr C 21 dX8_vote_104 rfl rfl rfl fl_X8_41 (hR 25 21 35 rfl) ?_
    refine g_iload_4 C dX8_vote_107 rfl ?_
    refine g_dup2 C dX8_vote_109 rfl rfl rfl ?_
    refine g_lald C dX8_vote_110 rfl rfl (n_in (show c < 10 by omega) (by decide)) ?_
    rw [nI_clamp (show c < 2 ^ 31 by omega), mL_sV, gl_at _ _ (show c < 10 by omega)]
    refine g_lload_5 C dX8_vote_111 rfl ?_
    refine g_lsub C dX8_vote_113 rfl ?_
    refine g_last C dX8_vote_114 rfl rfl (n_in (show c < 10 by omega) (by decide)) ?_
    rw [nI_clamp (show c < 2 ^ 31 by omega), sL_sV, mL_sV, sV_sV, gl_updL _ _ (show c < 10 by omega)]
    refine g_iinc_4 (z := -1) C rfl dX8_vote_115 rfl (by decide) ?_
    refine g_goto (tgt := 68) C dX8_vote_118 (by decide) ?_
    rw [lcI_p]
    exact ih (vst q b c) _ _ (by omega) K

set_option maxHeartbeats 4000000 in
set_option maxRecDepth 20000 in
theorem lp_X8_vote2 {κ : Kx} {Φ : Option Value → Mem → Prop} (C : Cx RX8 cX8_vote 7 (some .int) 1 false Φ κ) (S : Mem) (hR : Rs S) (f : Nat → Int64) (q : Int32) (N : Nat) (hN : N ≤ 9) (K : ∀ v3 v4 v5 v6 : Value, G κ 0 0 (sV S 35 (gl (upF q N) f 10)) 127 [.ref 25, .int (nI N), .int q, v3, v4, v5, v6] []) : ∀ (n k : Nat) (v4 v5 v6 : Value), k ≤ N → N + 1 ≤ k + n → G κ 0 0 (sV S 35 (gl (upF q k) f 10)) 60 [.ref 25, .int (nI N), .int q, .int (nI k), v4, v5, v6] [] := by
  intro n
  induction n with
  | zero => intro k v4 v5 v6 h1 h2; exact absurd h2 (by omega)
  | succ n ih =>
    intro k v4 v5 v6 hk1 hk2
    refine g_iload_3 C dX8_vote_60 rfl ?_
    refine g_iload_1 C dX8_vote_61 rfl ?_
    refine g_icmp_ge (tgt := 127) C dX8_vote_62 rfl (by decide) (fun h62 => ?_) (fun h62 => ?_)
    · skip
      have hk : k = N := by have := n_ge (b := N) h62 (by omega) (by omega); omega
      rw [hk]
      exact K _ _ _ _
    · skip
      refine g_iload_3 C dX8_vote_65 rfl ?_
      refine g_istore_4 C rfl dX8_vote_66 rfl ?_
      have hk : k < N := n_lt (b := N) h62 (by omega) (by omega)
      refine lp_X8_vote3 C S hR f (nI N) q (nI k) (k + 1) (upF q k) _ _ (by omega) (fun v4 v5 v6 => ?_)
      refine g_iinc_3 (z := 1) C rfl dX8_vote_121 rfl (by decide) ?_
      refine g_goto (tgt := 60) C dX8_vote_124 (by decide) ?_
      rw [nI_1]
      exact ih (k + 1) _ _ _ (by omega) (by omega)

set_option maxHeartbeats 4000000 in
set_option maxRecDepth 20000 in
theorem lp_X8_vote4 {κ : Kx} {Φ : Option Value → Mem → Prop} (C : Cx RX8 cX8_vote 7 (some .int) 1 false Φ κ) (S : Mem) (hR : Rs S) (f : Nat → Int64) (q : Int32) (N k0 : Nat) (hN : N ≤ 9) (hk0 : k0 ≤ N + 1) (b : Nat → Int64) (hΦ : Φ (some (.int (smA b k0 (N + 1 - k0)).toInt32)) (sV S 35 (gl b f 10))) : ∀ (n c : Nat) (v6 : Value), c + k0 ≤ N + 1 → N + 2 ≤ c + k0 + n → G κ 0 0 (sV S 35 (gl b f 10)) 136 [.ref 25, .int (nI N), .int q, .long (smA b k0 c), .float 0, .int (nI (k0 + c)), v6] [] := by
  intro n
  induction n with
  | zero => intro c v6 h1 h2; exact absurd h2 (by omega)
  | succ n ih =>
    intro c v6 hk1 hk2
    refine g_iload_5 C dX8_vote_136 rfl ?_
    refine g_iload_1 C dX8_vote_138 rfl ?_
    refine g_icmp_gt (tgt := 158) C dX8_vote_139 rfl (by decide) (fun h139 => ?_) (fun h139 => ?_)
    · skip
      have hk : c = N + 1 - k0 := by have := n_lt' (a := N) (b := k0 + c) h139 (by omega) (by omega); omega
      rw [hk]
      refine g_lload_3 C dX8_vote_158 rfl ?_
      refine g_l2i C dX8_vote_159 rfl ?_
      exact g_iret C rfl dX8_vote_160 hΦ
    · skip
      refine g_lload_3 C dX8_vote_142 rfl ?_
      have hk : k0 + c ≤ N := n_nlt (a := N) (b := k0 + c) h139 (by omega) (by omega)
      refine g_aload_0 C dX8_vote_143 rfl ?_
      refine g_getr C 21 dX8_vote_144 rfl rfl rfl fl_X8_41 (hR 25 21 35 rfl) ?_
      refine g_iload_5 C dX8_vote_147 rfl ?_
      refine g_lald C dX8_vote_149 rfl rfl (n_in (show k0 + c < 10 by omega) (by decide)) ?_
      rw [nI_clamp (show k0 + c < 2 ^ 31 by omega), mL_sV, gl_at _ _ (show k0 + c < 10 by omega)]
      refine g_ladd C dX8_vote_150 rfl ?_
      refine g_lstore_3 C rfl dX8_vote_151 rfl ?_
      refine g_iinc_5 (z := 1) C rfl dX8_vote_152 rfl (by decide) ?_
      refine g_goto (tgt := 136) C dX8_vote_155 (by decide) ?_
      rw [nI_1]
      exact ih (c + 1) _ (by omega) (by omega)

def vtS (S : Mem) (n q : Int32) : Mem := if inI n 1 9 = true ∧ inI q 0 100 = true then sV S 35 (gl (upF q n.toNatClampNeg) (mL S 35) 10) else S
set_option maxHeartbeats 4000000 in
set_option maxRecDepth 20000 in
theorem ok_X8_vote (n q : Int32) (S : Mem) (hR : Rs S) : Ok yX8_vote cX8_vote 7 (some .int) 1 0 0 [.ref 25, .int n, .int q] S (RI (vtV n q) (vtS S n q)) := by
  refine Ok.of (by decide) (Nat.le_of_ble_eq_true rfl) rfl (fun κ C hx => ?_)
  have C : Cx RX8 cX8_vote 7 (some .int) 1 false _ κ := C
  refine g_iload_1 C dX8_vote_0 rfl ?_
  refine g_i2l C dX8_vote_1 rfl ?_
  refine g_lconst (v := 1) C dX8_vote_2 rfl (by decide) ?_
  refine g_ldc2 C dX8_vote_3 rfl kl_X8_211 ?_
  refine g_cS3i C dX8_vote_6 rfl ml_X8_73 mz_X8_in (ok_X8_in _ _ _ _) (by decide) rfl rfl (Nat.le_of_ble_eq_true rfl) (fun hn6 => ?_)
  rw [show inL n.toInt64 1 9 = inI n 1 9 from inL_32 n 1 9]
  refine g_if_eq (tgt := 24) C dX8_vote_9 rfl (by decide) (fun h9 => ?_) (fun h9 => ?_)
  · skip
    refine g_ldc C dX8_vote_24 rfl kc_X8_82 ?_
    exact g_iret C rfl dX8_vote_26 ⟨by unfold vtV; rw [if_neg (fun e => by rw [(bI_0 _).mp h9] at e; exact absurd e.1 (by decide))], by unfold vtS; rw [if_neg (fun e => by rw [(bI_0 _).mp h9] at e; exact absurd e.1 (by decide))]⟩
  · skip
    refine g_iload_2 C dX8_vote_12 rfl ?_
    refine g_i2l C dX8_vote_13 rfl ?_
    refine g_lconst (v := 0) C dX8_vote_14 rfl (by decide) ?_
    refine g_ldc2 C dX8_vote_15 rfl kl_X8_213 ?_
    refine g_cS3i C dX8_vote_18 rfl ml_X8_73 mz_X8_in (ok_X8_in _ _ _ _) (by decide) rfl rfl (Nat.le_of_ble_eq_true rfl) (fun hn18 => ?_)
    rw [show inL q.toInt64 0 100 = inI q 0 100 from inL_32 q 0 100]
    refine g_if_ne (tgt := 27) C dX8_vote_21 rfl (by decide) (fun h21 => ?_) (fun h21 => ?_)
    · skip
      refine g_iconst (v := 0) C dX8_vote_27 rfl (by decide) ?_
      refine g_istore_3 C rfl dX8_vote_28 rfl ?_
      have hn1 : inI n 1 9 = true := (nf_t (fun q => h9 ((bI_0 _).mpr q)))
      have hq1 : inI q 0 100 = true := (nf_t (fun q => h21 ((bI_0 _).mpr q)))
      obtain ⟨N, hN1, hN, e⟩ := in9 hn1
      have eV : vtV n q = vtN N q := by unfold vtV; rw [if_pos ⟨hn1, hq1⟩, e, nI_clamp (by omega)]
      have eS : vtS S n q = sV S 35 (gl (upF q N) (mL S 35) 10) := by unfold vtS; rw [if_pos ⟨hn1, hq1⟩, e, nI_clamp (by omega)]
      rw [e]
      have h0 := lp_X8_vote1 C S hR (mL S 35) (nI N) q (.float 0) (.float 0) (.float 0) (fun v3 => ?_) 11 0 (by omega) (by omega)
      · rw [gl_0, sV_self] at h0
        exact h0
      · refine g_iconst (v := 0) C dX8_vote_58 rfl (by decide) ?_
        refine g_istore_3 C rfl dX8_vote_59 rfl ?_
        refine lp_X8_vote2 C S hR (mL S 35) q N hN (fun v3 v4 v5 v6 => ?_) (N + 1) 0 _ _ _ (Nat.zero_le _) (by omega)
        refine g_lconst (v := 0) C dX8_vote_127 rfl (by decide) ?_
        refine g_lstore_3 C rfl dX8_vote_128 rfl ?_
        refine g_iload_1 C dX8_vote_129 rfl ?_
        refine g_iconst (v := 2) C dX8_vote_130 rfl (by decide) ?_
        refine g_idiv C dX8_vote_131 rfl (by decide) ?_
        rw [show nI N / 2 = nI (N / 2) from pk_div (d := 2) (by omega) (by omega) (by omega)]
        refine g_iconst (v := 1) C dX8_vote_132 rfl (by decide) ?_
        refine g_iadd C dX8_vote_133 rfl ?_
        rw [nI_1]
        refine g_istore_5 C rfl dX8_vote_134 rfl ?_
        exact lp_X8_vote4 C S hR (mL S 35) q N (N / 2 + 1) hN (by omega) (upF q N) ⟨by rw [eV]; rfl, by rw [eS]⟩ (N + 2) 0 _ (by omega) (by omega)
    · skip
      refine g_ldc C dX8_vote_24 rfl kc_X8_82 ?_
      exact g_iret C rfl dX8_vote_26 ⟨by unfold vtV; rw [if_neg (fun e => by rw [(bI_0 _).mp h21] at e; exact absurd e.2 (by decide))], by unfold vtS; rw [if_neg (fun e => by rw [(bI_0 _).mp h21] at e; exact absurd e.2 (by decide))]⟩

set_option maxHeartbeats 4000000 in
set_option maxRecDepth 20000 in
theorem lp_X8_askNext1 {κ : Kx} {Φ : Option Value → Mem → Prop} (C : Cx RX8 cX8_askNext 6 (some .int) 3 false Φ κ) (S : Mem) (hR : Rs S) (f : Nat → Int32) (a1 : Int32) (v3 v4 v5 : Value) (K : ∀ v2 : Value, G κ 0 0 (sW S 39 (gl (fun _ => 0) f 16)) 23 [.ref 25, .int a1, v2, v3, v4, v5] []) : ∀ (n k : Nat), k ≤ 16 → 16 + 1 ≤ k + n → G κ 0 0 (sW S 39 (gl (fun _ => 0) f k)) 4 [.ref 25, .int a1, .int (nI k), v3, v4, v5] [] := by
  intro n
  induction n with
  | zero => intro k h1 h2; exact absurd h2 (by omega)
  | succ n ih =>
    intro k hk1 hk2
    refine g_iload_2 C dX8_askNext_4 rfl ?_
    refine g_bipush (v := 16) C dX8_askNext_5 rfl (by decide) ?_
    refine g_icmp_ge (tgt := 23) C dX8_askNext_7 rfl (by decide) (fun h7 => ?_) (fun h7 => ?_)
    · skip
      have hk : k = 16 := by have := n_ge (b := 16) h7 (by omega) (by omega); omega
      rw [hk]
      exact K _
    · skip
      refine g_aload_0 C dX8_askNext_10 rfl ?_
      refine g_getr C 26 dX8_askNext_11 rfl rfl rfl fl_X8_55 (hR 25 26 39 rfl) ?_
      refine g_iload_2 C dX8_askNext_14 rfl ?_
      refine g_iconst (v := 0) C dX8_askNext_15 rfl (by decide) ?_
      refine g_iast C dX8_askNext_16 rfl rfl (n_in (show k < 16 by have := n_lt (b := 16) h7 (by omega) (by omega); omega) (by decide)) ?_
      rw [nI_clamp (show k < 2 ^ 31 by omega), sA_sW, mA_sW, sW_sW, gl_s (fun _ => 0)]
      refine g_iinc_2 (z := 1) C rfl dX8_askNext_17 rfl (by decide) ?_
      refine g_goto (tgt := 4) C dX8_askNext_20 (by decide) ?_
      have hk : k < 16 := n_lt (b := 16) h7 (by omega) (by omega)
      rw [nI_1]
      exact ih (k + 1) (by omega) (by omega)

set_option maxHeartbeats 4000000 in
set_option maxRecDepth 20000 in
theorem lp_X8_askNext3 {κ : Kx} {Φ : Option Value → Mem → Prop} (C : Cx RX8 cX8_askNext 6 (some .int) 3 false Φ κ) (S : Mem) (hR : Rs S) (f : Nat → Int32) (many kk all : Int32) (v5 : Value) (c : Nat → Int32) (K : ∀ v4 : Value, G κ 0 0 (sW S 39 (gl (adF c all 16) f 16)) 90 [.ref 25, .int many, .int kk, .int all, v4, v5] []) : ∀ (n k : Nat), k ≤ 16 → 16 + 1 ≤ k + n → G κ 0 0 (sW S 39 (gl (adF c all k) f 16)) 61 [.ref 25, .int many, .int kk, .int all, .int (nI k), v5] [] := by
  intro n
  induction n with
  | zero => intro k h1 h2; exact absurd h2 (by omega)
  | succ n ih =>
    intro k hk1 hk2
    refine g_iload_4 C dX8_askNext_61 rfl ?_
    refine g_bipush (v := 16) C dX8_askNext_63 rfl (by decide) ?_
    refine g_icmp_ge (tgt := 90) C dX8_askNext_65 rfl (by decide) (fun h65 => ?_) (fun h65 => ?_)
    · skip
      have hk : k = 16 := by have := n_ge (b := 16) h65 (by omega) (by omega); omega
      rw [hk]
      exact K _
    · skip
      refine g_aload_0 C dX8_askNext_68 rfl ?_
      have hk : k < 16 := n_lt (b := 16) h65 (by omega) (by omega)
      refine g_getr C 26 dX8_askNext_69 rfl rfl rfl fl_X8_55 (hR 25 26 39 rfl) ?_
      refine g_iload_4 C dX8_askNext_72 rfl ?_
      refine g_dup2 C dX8_askNext_74 rfl rfl rfl ?_
      refine g_iald C dX8_askNext_75 rfl rfl (n_in (show k < 16 by omega) (by decide)) ?_
      rw [nI_clamp (show k < 2 ^ 31 by omega), mA_sW, gl_at _ _ (show k < 16 by omega), show adF c all k k = c k from if_neg (by omega)]
      refine g_iload_3 C dX8_askNext_76 rfl ?_
      refine g_iload_4 C dX8_askNext_77 rfl ?_
      refine g_ishr C dX8_askNext_79 rfl ?_
      refine g_iconst (v := 1) C dX8_askNext_80 rfl (by decide) ?_
      refine g_iand C dX8_askNext_81 rfl ?_
      refine g_iadd C dX8_askNext_82 rfl ?_
      rw [show (all >>> (nI k &&& 31)) &&& 1 = bitI all (nI k) from rfl]
      refine g_iast C dX8_askNext_83 rfl rfl (n_in (show k < 16 by omega) (by decide)) ?_
      rw [nI_clamp (show k < 2 ^ 31 by omega), sA_sW, mA_sW, sW_sW, gl_upd _ _ (show k < 16 by omega), adF_s]
      refine g_iinc_4 (z := 1) C rfl dX8_askNext_84 rfl (by decide) ?_
      refine g_goto (tgt := 61) C dX8_askNext_87 (by decide) ?_
      rw [nI_1]
      exact ih (k + 1) (by omega) (by omega)

set_option maxHeartbeats 4000000 in
set_option maxRecDepth 20000 in
theorem lp_X8_askNext2 {κ : Kx} {Φ : Option Value → Mem → Prop} (C : Cx RX8 cX8_askNext 6 (some .int) 3 false Φ κ) (S : Mem) (hR : Rs S) (nr : Nat) (hnr : mI S 25 1 = nI nr) (hT : Tn nr (mA S 27)) (an : Nat) (han : mI S 25 22 = nI an) (ha6 : an ≤ 6) (f : Nat → Int32) (K : ∀ v2 v3 v4 v5 : Value, G κ 0 0 (sW S 39 (gl (anT S nr an (2 ^ nr)).2 f 16)) 96 [.ref 25, .int (anT S nr an (2 ^ nr)).1, v2, v3, v4, v5] []) : ∀ (n k : Nat) (v3 v4 v5 : Value), k ≤ 2 ^ nr → 2 ^ nr + 1 ≤ k + n → G κ 0 0 (sW S 39 (gl (anT S nr an k).2 f 16)) 25 [.ref 25, .int (anT S nr an k).1, .int (nI k), v3, v4, v5] [] := by
  have h10 := pw10 hT.1
  intro n
  induction n with
  | zero => intro k v3 v4 v5 h1 h2; exact absurd h2 (by omega)
  | succ n ih =>
    intro k v3 v4 v5 hk1 hk2
    refine g_iload_2 C dX8_askNext_25 rfl ?_
    refine g_iconst (v := 1) C dX8_askNext_26 rfl (by decide) ?_
    refine g_aload_0 C dX8_askNext_27 rfl ?_
    refine g_geti C 1 dX8_askNext_28 rfl rfl rfl fl_X8_77 ?_
    rw [show mI (sW S 39 (gl (anT S nr an k).2 f 16)) 25 1 = nI nr from hnr]
    refine g_ishl C dX8_askNext_31 rfl ?_
    rw [show (1 : Int32) <<< (nI nr &&& 31) = nI (2 ^ nr) from pw_nI nr (by have := hT.1; omega)]
    refine g_icmp_ge (tgt := 96) C dX8_askNext_32 rfl (by decide) (fun h32 => ?_) (fun h32 => ?_)
    · skip
      have hk : k = 2 ^ nr := by have := n_ge (b := 2 ^ nr) h32 (by omega) (by omega); omega
      rw [hk]
      exact K _ _ _ _
    · skip
      refine g_aload_0 C dX8_askNext_35 rfl ?_
      have hk : k < 2 ^ nr := n_lt (b := 2 ^ nr) h32 (by omega) (by omega)
      refine g_iload_2 C dX8_askNext_36 rfl ?_
      refine g_cV1i C dX8_askNext_37 rfl ml_X8_219 mz_X8_isBelieved (ok_X8_isBelieved _ (sW S 39 (gl (anT S nr an k).2 f 16)) hR nr hnr hT an han ha6) (by decide) rfl rfl rfl rfl (Nat.le_of_ble_eq_true rfl) (fun hn37 => ?_)
      rw [ibF_sW]
      refine g_if_eq (tgt := 90) C dX8_askNext_40 rfl (by decide) (fun h40 => ?_) (fun h40 => ?_)
      · skip
        refine g_iinc_2 (z := 1) C rfl dX8_askNext_90 rfl (by decide) ?_
        refine g_goto (tgt := 25) C dX8_askNext_93 (by decide) ?_
        rw [nI_1]
        have e : anT S nr an (k + 1) = anT S nr an k := if_neg (by rw [(bI_0 _).mp h40]; decide)
        have h1 := ih (k + 1) v3 v4 v5 (by omega) (by omega)
        rw [e] at h1
        exact h1
      · skip
        refine g_aload_0 C dX8_askNext_43 rfl ?_
        refine g_aload_0 C dX8_askNext_44 rfl ?_
        refine g_getr C 5 dX8_askNext_45 rfl rfl rfl fl_X8_19 (hR 25 5 29 rfl) ?_
        refine g_iconst (v := 0) C dX8_askNext_48 rfl (by decide) ?_
        refine g_iald C dX8_askNext_49 rfl rfl (n_in (k := 0) (N := 4) (by decide) (by decide)) ?_
        refine g_iload_2 C dX8_askNext_50 rfl ?_
        refine g_cV2i C dX8_askNext_51 rfl ml_X8_152 mz_X8_close (ok_X8_close _ _ (sW S 39 (gl (anT S nr an k).2 f 16)) hR nr hnr hT) (by decide) rfl rfl rfl rfl (Nat.le_of_ble_eq_true rfl) (fun hn51 => ?_)
        rw [mA_sW_ne S _ (show 27 ≠ 39 by decide), mA_sW_ne S _ (show 28 ≠ 39 by decide), show mA (sW S 39 (gl (anT S nr an k).2 f 16)) 29 (Int32.toNatClampNeg 0) = mA S 29 0 from rfl]
        refine g_istore_3 C rfl dX8_askNext_54 rfl ?_
        refine g_iinc_1 (z := 1) C rfl dX8_askNext_55 rfl (by decide) ?_
        refine g_iconst (v := 0) C dX8_askNext_58 rfl (by decide) ?_
        refine g_istore_4 C rfl dX8_askNext_59 rfl ?_
        have e : anT S nr an (k + 1) = _ := if_pos (nf_t (fun q => h40 ((bI_0 _).mpr q)))
        have h0 := lp_X8_askNext3 C S hR f ((anT S nr an k).1 + 1) (nI k) (clo nr (mA S 27) (mA S 28) (nI k) (mA S 29 0)) v5 (anT S nr an k).2 (fun v4 => ?_) 17 0 (by omega) (by omega)
        · rw [adF_0] at h0
          exact h0
        · refine g_iinc_2 (z := 1) C rfl dX8_askNext_90 rfl (by decide) ?_
          refine g_goto (tgt := 25) C dX8_askNext_93 (by decide) ?_
          rw [nI_1]
          have h1 := ih (k + 1) (.int (clo nr (mA S 27) (mA S 28) (nI k) (mA S 29 0))) v4 v5 (by omega) (by omega)
          rw [e] at h1
          exact h1

set_option maxHeartbeats 4000000 in
set_option maxRecDepth 20000 in
theorem lp_X8_askNext4 {κ : Kx} {Φ : Option Value → Mem → Prop} (C : Cx RX8 cX8_askNext 6 (some .int) 3 false Φ κ) (S : Mem) (hR : Rs S) (th : Nat) (hth : mI S 25 0 = nI th) (h8 : th ≤ 8) (f c : Nat → Int32) (m : Int32) (hΦ : Φ (some (.int (azF c m (2 * th)).1)) (sW S 39 (gl c f 16))) : ∀ (n k : Nat) (v5 : Value), k ≤ 2 * th → 2 * th + 1 ≤ k + n → G κ 0 0 (sW S 39 (gl c f 16)) 103 [.ref 25, .int m, .int (azF c m k).1, .int (azF c m k).2, .int (nI k), v5] [] := by
  intro n
  induction n with
  | zero => intro k v5 h1 h2; exact absurd h2 (by omega)
  | succ n ih =>
    intro k v5 hk1 hk2
    refine g_iload_4 C dX8_askNext_103 rfl ?_
    refine g_iconst (v := 2) C dX8_askNext_105 rfl (by decide) ?_
    refine g_aload_0 C dX8_askNext_106 rfl ?_
    refine g_geti C 0 dX8_askNext_107 rfl rfl rfl fl_X8_70 ?_
    rw [show mI (sW S 39 (gl c f 16)) 25 0 = nI th from hth]
    refine g_imul C dX8_askNext_110 rfl ?_
    rw [two_nI th (by omega)]
    refine g_icmp_ge (tgt := 186) C dX8_askNext_111 rfl (by decide) (fun h111 => ?_) (fun h111 => ?_)
    · skip
      have hk : k = 2 * th := by have := n_ge (b := 2 * th) h111 (by omega) (by omega); omega
      rw [hk]
      refine g_iload_2 C dX8_askNext_186 rfl ?_
      exact g_iret C rfl dX8_askNext_187 hΦ
    · skip
      refine g_aload_0 C dX8_askNext_114 rfl ?_
      have hk : k < 2 * th := n_lt (b := 2 * th) h111 (by omega) (by omega)
      refine g_getr C 26 dX8_askNext_115 rfl rfl rfl fl_X8_55 (hR 25 26 39 rfl) ?_
      refine g_iload_4 C dX8_askNext_118 rfl ?_
      refine g_iald C dX8_askNext_120 rfl rfl (n_in (show k < 16 by omega) (by decide)) ?_
      rw [nI_clamp (show k < 2 ^ 31 by omega), mA_sW, gl_at _ _ (show k < 16 by omega)]
      refine g_iload_1 C dX8_askNext_121 rfl ?_
      refine g_aload_0 C dX8_askNext_122 rfl ?_
      refine g_getr C 26 dX8_askNext_123 rfl rfl rfl fl_X8_55 (hR 25 26 39 rfl) ?_
      refine g_iload_4 C dX8_askNext_126 rfl ?_
      refine g_iald C dX8_askNext_128 rfl rfl (n_in (show k < 16 by omega) (by decide)) ?_
      rw [nI_clamp (show k < 2 ^ 31 by omega), mA_sW, gl_at _ _ (show k < 16 by omega)]
      refine g_isub C dX8_askNext_129 rfl ?_
      refine g_icmp_le (tgt := 143) C dX8_askNext_130 rfl (by decide) (fun h130 => ?_) (fun h130 => ?_)
      · skip
        refine g_iload_1 C dX8_askNext_143 rfl ?_
        refine g_aload_0 C dX8_askNext_144 rfl ?_
        refine g_getr C 26 dX8_askNext_145 rfl rfl rfl fl_X8_55 (hR 25 26 39 rfl) ?_
        refine g_iload_4 C dX8_askNext_148 rfl ?_
        refine g_iald C dX8_askNext_150 rfl rfl (n_in (show k < 16 by omega) (by decide)) ?_
        rw [nI_clamp (show k < 2 ^ 31 by omega), mA_sW, gl_at _ _ (show k < 16 by omega)]
        refine g_isub C dX8_askNext_151 rfl ?_
        refine g_istore_5 C rfl dX8_askNext_152 rfl ?_
        refine g_iload_5 C dX8_askNext_154 rfl ?_
        refine g_iload_3 C dX8_askNext_156 rfl ?_
        refine g_icmp_ge (tgt := 165) C dX8_askNext_157 rfl (by decide) (fun h157 => ?_) (fun h157 => ?_)
        · skip
          refine g_iload_2 C dX8_askNext_165 rfl ?_
          refine g_istore_2 C rfl dX8_askNext_166 rfl ?_
          refine g_iload_5 C dX8_askNext_167 rfl ?_
          refine g_iload_3 C dX8_askNext_169 rfl ?_
          refine g_icmp_ge (tgt := 178) C dX8_askNext_170 rfl (by decide) (fun h170 => ?_) (fun h170 => ?_)
          · skip
            refine g_iload_3 C dX8_askNext_178 rfl ?_
            refine g_istore_3 C rfl dX8_askNext_179 rfl ?_
            refine g_iinc_4 (z := 1) C rfl dX8_askNext_180 rfl (by decide) ?_
            refine g_goto (tgt := 103) C dX8_askNext_183 (by decide) ?_
            have ep : prt m (c k) = _ := if_pos h130
            have e : azF c m (k + 1) = azF c m k := if_pos (by rw [ep]; exact h157)
            rw [nI_1]
            have h1 := fun v => ih (k + 1) v (by omega) (by omega)
            rw [e] at h1
            exact h1 _
          · skip
            refine g_iload_5 C dX8_askNext_173 rfl ?_
            refine g_goto (tgt := 179) C dX8_askNext_175 (by decide) ?_
            refine g_istore_3 C rfl dX8_askNext_179 rfl ?_
            refine g_iinc_4 (z := 1) C rfl dX8_askNext_180 rfl (by decide) ?_
            refine g_goto (tgt := 103) C dX8_askNext_183 (by decide) ?_
            exact absurd h157 h170
        · skip
          refine g_iload_4 C dX8_askNext_160 rfl ?_
          refine g_goto (tgt := 166) C dX8_askNext_162 (by decide) ?_
          refine g_istore_2 C rfl dX8_askNext_166 rfl ?_
          refine g_iload_5 C dX8_askNext_167 rfl ?_
          refine g_iload_3 C dX8_askNext_169 rfl ?_
          refine g_icmp_ge (tgt := 178) C dX8_askNext_170 rfl (by decide) (fun h170 => ?_) (fun h170 => ?_)
          · skip
            refine g_iload_3 C dX8_askNext_178 rfl ?_
            refine g_istore_3 C rfl dX8_askNext_179 rfl ?_
            refine g_iinc_4 (z := 1) C rfl dX8_askNext_180 rfl (by decide) ?_
            refine g_goto (tgt := 103) C dX8_askNext_183 (by decide) ?_
            exact absurd h170 h157
          · skip
            refine g_iload_5 C dX8_askNext_173 rfl ?_
            refine g_goto (tgt := 179) C dX8_askNext_175 (by decide) ?_
            refine g_istore_3 C rfl dX8_askNext_179 rfl ?_
            refine g_iinc_4 (z := 1) C rfl dX8_askNext_180 rfl (by decide) ?_
            refine g_goto (tgt := 103) C dX8_askNext_183 (by decide) ?_
            have ep : prt m (c k) = _ := if_pos h130
            have e : azF c m (k + 1) = (nI k, prt m (c k)) := if_neg (by rw [ep]; exact h157)
            rw [nI_1]
            have h1 := fun v => ih (k + 1) v (by omega) (by omega)
            rw [e] at h1
            rw [ep] at h1
            exact h1 _
      · skip
        refine g_aload_0 C dX8_askNext_133 rfl ?_
        refine g_getr C 26 dX8_askNext_134 rfl rfl rfl fl_X8_55 (hR 25 26 39 rfl) ?_
        refine g_iload_4 C dX8_askNext_137 rfl ?_
        refine g_iald C dX8_askNext_139 rfl rfl (n_in (show k < 16 by omega) (by decide)) ?_
        rw [nI_clamp (show k < 2 ^ 31 by omega), mA_sW, gl_at _ _ (show k < 16 by omega)]
        refine g_goto (tgt := 152) C dX8_askNext_140 (by decide) ?_
        refine g_istore_5 C rfl dX8_askNext_152 rfl ?_
        refine g_iload_5 C dX8_askNext_154 rfl ?_
        refine g_iload_3 C dX8_askNext_156 rfl ?_
        refine g_icmp_ge (tgt := 165) C dX8_askNext_157 rfl (by decide) (fun h157 => ?_) (fun h157 => ?_)
        · skip
          refine g_iload_2 C dX8_askNext_165 rfl ?_
          refine g_istore_2 C rfl dX8_askNext_166 rfl ?_
          refine g_iload_5 C dX8_askNext_167 rfl ?_
          refine g_iload_3 C dX8_askNext_169 rfl ?_
          refine g_icmp_ge (tgt := 178) C dX8_askNext_170 rfl (by decide) (fun h170 => ?_) (fun h170 => ?_)
          · skip
            refine g_iload_3 C dX8_askNext_178 rfl ?_
            refine g_istore_3 C rfl dX8_askNext_179 rfl ?_
            refine g_iinc_4 (z := 1) C rfl dX8_askNext_180 rfl (by decide) ?_
            refine g_goto (tgt := 103) C dX8_askNext_183 (by decide) ?_
            have ep : prt m (c k) = _ := if_neg h130
            have e : azF c m (k + 1) = azF c m k := if_pos (by rw [ep]; exact h157)
            rw [nI_1]
            have h1 := fun v => ih (k + 1) v (by omega) (by omega)
            rw [e] at h1
            exact h1 _
          · skip
            refine g_iload_5 C dX8_askNext_173 rfl ?_
            refine g_goto (tgt := 179) C dX8_askNext_175 (by decide) ?_
            refine g_istore_3 C rfl dX8_askNext_179 rfl ?_
            refine g_iinc_4 (z := 1) C rfl dX8_askNext_180 rfl (by decide) ?_
            refine g_goto (tgt := 103) C dX8_askNext_183 (by decide) ?_
            exact absurd h157 h170
        · skip
          refine g_iload_4 C dX8_askNext_160 rfl ?_
          refine g_goto (tgt := 166) C dX8_askNext_162 (by decide) ?_
          refine g_istore_2 C rfl dX8_askNext_166 rfl ?_
          refine g_iload_5 C dX8_askNext_167 rfl ?_
          refine g_iload_3 C dX8_askNext_169 rfl ?_
          refine g_icmp_ge (tgt := 178) C dX8_askNext_170 rfl (by decide) (fun h170 => ?_) (fun h170 => ?_)
          · skip
            refine g_iload_3 C dX8_askNext_178 rfl ?_
            refine g_istore_3 C rfl dX8_askNext_179 rfl ?_
            refine g_iinc_4 (z := 1) C rfl dX8_askNext_180 rfl (by decide) ?_
            refine g_goto (tgt := 103) C dX8_askNext_183 (by decide) ?_
            exact absurd h170 h157
          · skip
            refine g_iload_5 C dX8_askNext_173 rfl ?_
            refine g_goto (tgt := 179) C dX8_askNext_175 (by decide) ?_
            refine g_istore_3 C rfl dX8_askNext_179 rfl ?_
            refine g_iinc_4 (z := 1) C rfl dX8_askNext_180 rfl (by decide) ?_
            refine g_goto (tgt := 103) C dX8_askNext_183 (by decide) ?_
            have ep : prt m (c k) = _ := if_neg h130
            have e : azF c m (k + 1) = (nI k, prt m (c k)) := if_neg (by rw [ep]; exact h157)
            rw [nI_1]
            have h1 := fun v => ih (k + 1) v (by omega) (by omega)
            rw [e] at h1
            rw [ep] at h1
            exact h1 _

noncomputable def anS (S : Mem) (nr an : Nat) : Mem := sW S 39 (gl (anT S nr an (2 ^ nr)).2 (mA S 39) 16)
set_option maxHeartbeats 4000000 in
set_option maxRecDepth 20000 in
theorem ok_X8_askNext (S : Mem) (hR : Rs S) (nr : Nat) (hnr : mI S 25 1 = nI nr) (hT : Tn nr (mA S 27)) (an : Nat) (han : mI S 25 22 = nI an) (ha6 : an ≤ 6) (th : Nat) (hth : mI S 25 0 = nI th) (h8 : th ≤ 8) : Ok yX8_askNext cX8_askNext 6 (some .int) 3 0 0 [.ref 25] S (RI (anV S nr an th) (anS S nr an)) := by
  refine Ok.of (by decide) (Nat.le_of_ble_eq_true rfl) rfl (fun κ C hx => ?_)
  have C : Cx RX8 cX8_askNext 6 (some .int) 3 false _ κ := C
  refine g_iconst (v := 0) C dX8_askNext_0 rfl (by decide) ?_
  refine g_istore_1 C rfl dX8_askNext_1 rfl ?_
  refine g_iconst (v := 0) C dX8_askNext_2 rfl (by decide) ?_
  refine g_istore_2 C rfl dX8_askNext_3 rfl ?_
  have h0 := lp_X8_askNext1 C S hR (mA S 39) 0 (.float 0) (.float 0) (.float 0) (fun v2 => ?_) 17 0 (by omega) (by omega)
  · rw [gl_0, sW_self] at h0
    exact h0
  · refine g_iconst (v := 0) C dX8_askNext_23 rfl (by decide) ?_
    refine g_istore_2 C rfl dX8_askNext_24 rfl ?_
    refine lp_X8_askNext2 C S hR nr hnr hT an han ha6 (mA S 39) (fun v2 v3 v4 v5 => ?_) (2 ^ nr + 1) 0 _ _ _ (Nat.zero_le _) (by omega)
    refine g_iconst (v := -1) C dX8_askNext_96 rfl (by decide) ?_
    refine g_istore_2 C rfl dX8_askNext_97 rfl ?_
    refine g_iload_1 C dX8_askNext_98 rfl ?_
    refine g_istore_3 C rfl dX8_askNext_99 rfl ?_
    refine g_iconst (v := 0) C dX8_askNext_100 rfl (by decide) ?_
    refine g_istore_4 C rfl dX8_askNext_101 rfl ?_
    exact lp_X8_askNext4 C S hR th hth h8 (mA S 39) _ _ ⟨rfl, rfl⟩ (2 * th + 1) 0 _ (Nat.zero_le _) (by omega)


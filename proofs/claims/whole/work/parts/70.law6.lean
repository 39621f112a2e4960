/-! THE LAW, from its entry -/
theorem nw_ok : ∀ q ∈ NW, Cond.methodLinkNest q.1 q.2.1 q.2.2.1 q.2.2.2 ∈ lw_tbl := by decide +kernel
def K99 (p : Program) (l : Launch) (e : Env) (s : State) (m : MethodId) (below : List Frame) (meth : Method) (c : Code) (D : va_G) (c4 : Nat → ClassId) (b : Nat) : Kx := ((p, l, e, room_1, s), (m, #[Value.ref b], below, meth, c), D, c4, (fun q => s.heap.size ≤ q), lw_Z below #[Value.ref b] s, 0, (fun _ => 0), 600000, 7302250, some b)
set_option maxHeartbeats 4000000 in
set_option maxRecDepth 20000 in
theorem whole_start {p : Program} {e : Env} {s : State} {m : MethodId} {below : List Frame} {meth : Method} {c : Code} (l : Launch) {b L : Nat} {xs : Nat → Int32} (hL : L ≤ 256) (C0 : lw_At p s m meth c b L xs) : W p l e room_1 s m #[Value.ref b] below meth c s.heap [] 0 0 (lw_Z below #[Value.ref b] s) (entryFrame m ([Value.ref b] : List Value).toArray 4) := by
  obtain ⟨hx, hb, hr, hml, hown, hts, hX, hbl, hlocks, hgv⟩ := id C0
  obtain ⟨D, c4, hK⟩ := start_K hts
  have hu : ∀ w ∈ UT, w.before #[Value.ref b] s = true := fun w hw => hts w (ut_tbl hw)
  have hAO : va_AO RX2 s := va_AO.of (hts _ ao_word)
  have hNW : ∀ q ∈ NW, va_Nw (.methodLinkNest q.1 q.2.1 q.2.2.1 q.2.2.2) s := fun q hq => va_Nw.of rfl (hts _ (nw_ok q hq))
  have C : Cx RL cL_law 4 (some .boolean) 20 false (fun r _ => r = some (.int 1)) (K99 p l e s m below meth c D c4 b) := by
    refine ⟨⟨hx, hb, hml, hown, hu⟩, ⟨hK, hNW, hAO⟩, ⟨fun q h => h, Nat.le_refl _, Nat.le_refl _⟩, ⟨Nat.le_of_ble_eq_true rfl, Nat.le_of_ble_eq_true rfl⟩, fun h => absurd h (by decide), ?_⟩
    intro r S ad H locs lsA cells slots pc ins hw hrr hΦ hrt hdec
    have hΦ : r = some (.int 1) := hΦ
    subst hΦ
    have hins : ins = .ireturn := by
      rcases hrt with ⟨e1, _⟩ | ⟨e1, _⟩ | ⟨_, _, e1⟩ | ⟨⟨n, e1⟩, _⟩
      · cases e1
      · cases e1
      · exact e1
      · cases e1
    subst hins
    refine va_forget (fun q hq => hw.2.2.1.2.2 q hq) ?_
    refine W.widen (k := 600000) (n := 7302250) (by have := hw.2.2.2.2.2.2.2.1; exact Nat.le_trans (Nat.le_add_right _ _) this) (by have := hw.2.2.2.2.2.2.2.2; exact Nat.le_trans (Nat.le_add_right _ _) this) ?_
    exact lw_ret hx hb hr hlocks hdec
  have hsc : Sc9 (K99 p l e s m below meth c D c4 b) b L xs := ⟨rfl, hX, hbl, Nat.not_le.mpr hbl⟩
  have hG := law_all C hsc hL
  have hl := lv_entry ([.ref b]) (n := 4) (Nat.le_of_ble_eq_true rfl)
  rw [lg_entry_eq]
  refine hG (fun _ => 0) s.heap [] _ 0 0 ⟨?_, ?_, va_S.rf, fun q hq => absurd hq (Nat.not_lt_zero q), fun k hk => absurd hk (Nat.not_lt_zero k), Nat.le_refl _, fun q hq => absurd hq (Nat.not_lt_zero q), ?_, ?_⟩ ⟨⟨hl.1.trans hml.symm, hl.2.1, ?_, fun i v hi hf => ?_⟩, fun v hv => ?_, fun b' hb' => ?_⟩ (fun v hv => by cases hv)
  · intro k q h
    have h : ([] : va_W)[k]? = some q := h
    simp at h
  · refine ⟨fun i j q r h => ?_, fun k q h => ?_⟩
    · have h : ([] : va_W)[i]? = some q := h
      simp at h
    · have h : ([] : va_W)[k]? = some q := h
      simp at h
  · show 0 + (L + 1 + 18 + 1 + 24 + 1) ≤ 600000
    omega
  · show 0 + (4 * (L + 1) + 470 + 32 + 429 + 12) ≤ 7302250
    omega
  · show 4 ≤ c.maxLocals
    omega
  · match i, hi with
    | 0, hi => cases hi; cases hf
    | 1, hi => cases hi; cases hf
    | 2, hi => cases hi; cases hf
    | 3, hi => cases hi; cases hf
    | k + 4, hi => cases hi
  · have : v = .float 0 := by simpa using hv
    subst this
    trivial
  · have e1 : b = b' := Option.some.inj hb'
    subst e1
    exact hl.2.2 (0, .ref b) (List.mem_of_getElem? (i := 0) rfl)

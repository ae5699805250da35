/-! THE START: from what the Statement gives, the law's condition over the empty memory is enough. -/
def mj_M0 (N : Nat) : mj_M := (fun _ => 0, fun _ => 0, fun _ _ => 0, fun _ _ => 0, fun _ _ => 0, N + 1)
theorem mj_has {w : Cond} (i : Nat) (h : lw_tbl[i]? = some w) : w ∈ lw_tbl := List.mem_of_getElem? h
theorem mj_known {s : State} {args : Array Value} (hts : ∀ w ∈ mj_tbl, w.before args s = true) (hl : ∀ w ∈ lw_tbl, w.before args s = true) : ∀ (k : Nat) (q : vw_C), mj_cl[k]? = some q → ∃ (cC : ClassId) (iS : Nat → Nat), u_Kn s q.1 q.2.1 q.2.2 cC iS := by
  intro k q hq
  match k, hq with
  | 0, hq => cases hq; exact u_known hts tk0.2.1 (hl (Cond.instantiable RX0 4) (mj_has 610 (by decide +kernel)))
  | 1, hq => cases hq; exact u_known hts tk1.2.1 (hl (Cond.instantiable RX1 5) (mj_has 67 (by decide +kernel)))
  | 2, hq => cases hq; exact u_known hts tk2.2.1 (hl (Cond.instantiable RX2 3) (mj_has 73 (by decide +kernel)))
  | 3, hq => cases hq; exact u_known hts tk3.2.1 (hl (Cond.instantiable RX3 15) (mj_has 300 (by decide +kernel)))
  | 4, hq => cases hq; exact u_known hts tk4.2.1 (hl (Cond.instantiable RX4 6) (mj_has 37 (by decide +kernel)))
  | 5, hq => cases hq; exact u_known hts tk5.2.1 (hl (Cond.instantiable RX5 10) (mj_has 154 (by decide +kernel)))
  | 6, hq => cases hq; exact u_known hts tk6.2.1 (hl (Cond.instantiable RX6 7) (mj_has 751 (by decide +kernel)))
  | 7, hq => cases hq; exact u_known hts tk7.2.1 (hl (Cond.instantiable RX7 3) (mj_has 137 (by decide +kernel)))
  | 8, hq => cases hq; exact u_known hts tk8.2.1 (hl (Cond.instantiable RX8 8) (mj_has 106 (by decide +kernel)))
  | 9, hq => cases hq; exact u_known hts tk9.2.1 (hl (Cond.instantiable RX9 8) (mj_has 219 (by decide +kernel)))
  | 10, hq => cases hq; exact u_known hts tk10.2.1 (hl (Cond.instantiable RX10 8) (mj_has 194 (by decide +kernel)))
  | 11, hq => cases hq; exact u_known hts tk11.2.1 (hl (Cond.instantiable RX11 8) (mj_has 29 (by decide +kernel)))
  | k + 12, hq => simp [mj_cl] at hq
theorem mj_arr {s : State} {args : Array Value} {ty : FieldType} (h : (Cond.arrayClass ty).before args s = true) (hn : ∀ C, ty ≠ .object C) : ∃ cA : ClassId, ArrOfT s cA ty ∧ va_RA s cA ty := by
  obtain ⟨cA, kA, comp, h1, h2, h3⟩ := Cond.arrayClass_spec h
  refine ⟨cA, fun n z => ⟨fun k h => (by cases h), kA, h2, comp, h3⟩, ?_⟩
  cases ty <;> first | exact h1 | exact absurd rfl (hn _)
theorem mj_flat7 : ∀ j, j < 7 → Cond.eq (.elem (.field (.string "LeaseLand" 434) "java/lang/String" "value" "[B") (.int (Int32.ofNat j))) (.int ((([[108, 116, 104, 114, 102, 111, 115]] : List (List Int32)).getD 0 []).getD j 0)) ∈ flatC (Jvm.Cond.and given_1 narrow_1) := by decide +kernel
theorem mj_Z0 {s : State} {args : Array Value} {A : mj_AT} (hX : va_X A.2.2.2.1 A.2.2.2.2.1 A.2.2.2.2.2 s s.heap) (hl : ∀ w ∈ lw_tbl, w.before args s = true) (hgv : (Jvm.Cond.and given_1 narrow_1).before args s = true) : mj_Z A s.heap.size s s.heap := by
  have hf := flat_of_before _ hgv
  have hA : ∀ a : Nat, a < s.heap.size → ¬ (fun q => s.heap.size ≤ q) a := fun a h => Nat.not_le.mpr h
  have z0 : ∀ i : Nat, i < 1 → i = 0 := fun i h => by omega
  obtain ⟨adK, adV, h1, h2⟩ := vk_Sof (args := args) (s := s) (N := 1) (tm := fun _ => Term.string "LeaseLand" 434) (len := [7]) (byt := [[108, 116, 104, 114, 102, 111, 115]]) (A := fun q => s.heap.size ≤ q)
    (fun i hi => by rw [z0 i hi]; decide) (fun i hi => hf _ (by decide +kernel)) (fun i hi => hf _ (by decide +kernel)) (fun i hi => hf _ (by decide +kernel)) (fun i hi => by rw [z0 i hi]; exact hf _ (by decide +kernel))
    (fun i hi j hj => by rw [z0 i hi] at hj ⊢; exact hf _ (mj_flat7 j hj)) (fun i j hi hj hij => absurd ((z0 i hi).trans (z0 j hj).symm) hij) hA
  exact ⟨⟨adK, adV, h1, vk_R.of (hl (Cond.stringRef "LeaseLand" 434 "lthrfos") (mj_has 496 (by decide +kernel))) (h2 0 (by decide))⟩, va_Zof (hl (Cond.laysStatic "java/lang/String" "COMPACT_STRINGS" "Z") (mj_has 510 (by decide +kernel))) (hl (Cond.initialized "java/lang/String") (mj_has 19 (by decide +kernel))) (va_eqi (hf _ (by decide +kernel))) hA, va_Nw.of rfl (hl (Cond.castable "[I" "java/lang/Cloneable") (mj_has 619 (by decide +kernel))), hX, Nat.not_le.mpr (mj_X.lt hX)⟩
theorem mj_nestL {w : Cond} (h : w ∈ mj_nest) : w ∈ lw_tbl := List.mem_append_right _ (List.mem_filter.mp h).1
theorem mj_start {p : Program} {e : Env} {s : State} {m : MethodId} {below : List Frame} {meth : Method} {c : Code} (l : Launch) {b L : Nat} {xs : Nat → Int32} (C0 : lw_At p s m meth c b L xs) (hv : vc_L_law xs L (mj_M0 s.heap.size)) : W p l e room_1 s m #[Value.ref b] below meth c s.heap [] 0 0 (lw_Z below #[Value.ref b] s) (entryFrame m ([Value.ref b] : List Value).toArray 19) := by
  obtain ⟨hx, hb, hr, hml, hown, hts, hX, hbl, hlocks, hgv⟩ := id C0
  have htb : ∀ w ∈ mj_tbl, w.before #[Value.ref b] s = true := fun w hw => hts w (List.mem_filter.mp hw).1
  have hkn := mj_known htb hts
  obtain ⟨D, hD⟩ : ∃ D : va_G, ∀ (k : Nat) (q : vw_C), mj_cl[k]? = some q → u_Kn s q.1 q.2.1 q.2.2 (D.1 k) (D.2 k) := by
    have h1 : ∀ k : Nat, ∃ x : ClassId × (Nat → Nat), ∀ q : vw_C, mj_cl[k]? = some q → u_Kn s q.1 q.2.1 q.2.2 x.1 x.2 := by
      intro k
      cases hk : mj_cl[k]? with
      | none => exact ⟨(0, fun _ => 0), fun q h => by cases h⟩
      | some q =>
        obtain ⟨cC, iS, h⟩ := hkn k q hk
        exact ⟨(cC, iS), fun q' h' => by cases h'; exact h⟩
    obtain ⟨f, hf⟩ := Classical.axiomOfChoice h1
    exact ⟨(fun k => (f k).1, fun k => (f k).2), fun k q h => hf k q h⟩
  obtain ⟨A1, a1, a2⟩ := mj_arr (hts (Cond.arrayClass .int) (mj_has 65 (by decide +kernel))) (fun _ => by simp)
  have hK : va_K D mj_cl (mj_ty3 (A1, A1, A1, b, L, xs)) s := by
    refine ⟨hD, fun k q hq => ?_⟩
    match k, hq with
    | 0, hq => cases hq; exact ⟨a1, a2⟩
    | k + 1, hq => simp [mj_ty3] at hq
  have hN : ∀ w ∈ mj_nest, va_Nw w s := fun w hw => by
    have h := hts w (mj_nestL hw)
    obtain ⟨_, _, _, _, rfl⟩ := mj_nest_form hw
    exact va_Nw.of rfl h
  have hl := lv_entry ([.ref b]) (n := 19) (Nat.le_of_ble_eq_true rfl)
  rw [lg_entry_eq]
  generalize (lg_sl ([.ref b]) ++ List.replicate (19 - (lg_sl ([.ref b])).length) Slot.unset).toArray = ls at hl ⊢
  have hC : mj_C (p, l, e, room_1, s, m, #[Value.ref b], below, meth, c, lw_Z below #[Value.ref b] s, s.heap.size, D, (A1, A1, A1, b, L, xs)) ⟨R_law, meth.name, ""⟩ code 19 ret room_1 := ⟨hx, hb, hml, hr, hown, rfl, rfl, htb, hK, hN, mj_Z0 (A := (A1, A1, A1, b, L, xs)) hX hts hgv, Nat.le_refl _, hlocks⟩
  have hE : mj_EL (p, l, e, room_1, s, m, #[Value.ref b], below, meth, c, lw_Z below #[Value.ref b] s, s.heap.size, D, (A1, A1, A1, b, L, xs)) := ⟨⟨b, rfl⟩, hr, rfl, rfl⟩
  have hR : mj_R s.heap.size D (A1, A1, A1, b, L, xs) (mj_M0 s.heap.size) s.heap := ⟨rfl, trivial, Nat.lt_succ_self _, fun a h => absurd rfl h, fun a ci q h => absurd h (by show ¬ 0 = ci + 1; omega), fun a h => absurd h (by show ¬ 0 = 101; decide), fun a h => absurd h (by show ¬ 0 = 102; decide), fun a h => absurd h (by show ¬ 0 = 103; decide)⟩
  have hrf : mj_val (vR (b + 1)) = .ref b := by
    show mj_rf (b + 1) = _
    rw [mj_rfs (by omega), Nat.add_sub_cancel]
  have hX0 := xb_L_law_0 hC hE rfl (mj_M0 s.heap.size) hv s.heap ls [] hR (by
    rw [hml]
    show lv_has ls 19 [(0, mj_val (vR (b + 1)))]
    rw [hrf]
    exact hl) va_S.rf
  exact hX0

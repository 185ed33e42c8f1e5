/-! the walk from the entry -/
abbrev m0 : Row := upd (upd (upd (upd (upd z0 3 6) 4 1) 5 1) 37 2) 39 16
theorem rel0 : Rel ch0 m0 := by
  refine ⟨fun i hi => ?_, ⟨⟨0, by decide, rfl⟩, ⟨0, by decide, rfl⟩, by decide +kernel, fun a ha => ?_⟩, ⟨0, 0, rfl, by decide, rfl, by decide, rfl, fun k hk => absurd hk (Nat.not_lt_zero _)⟩, rfl, rfl, rfl, rfl, rfl, rfl, rfl, rfl, rfl, rfl, 0, 16, 2, rfl, rfl, rfl, by decide, by decide, by decide, by decide⟩
  · match i, hi with
    | 0, _ => exact ⟨rfl, rfl, by decide +kernel, rfl, ⟨0, by decide, rfl⟩, ⟨0, by decide, rfl⟩, ⟨0, by decide, rfl⟩⟩
    | 1, _ => exact ⟨rfl, rfl, by decide +kernel, rfl, ⟨0, by decide, rfl⟩, ⟨0, by decide, rfl⟩, ⟨0, by decide, rfl⟩⟩
    | 2, _ => exact ⟨rfl, rfl, by decide +kernel, rfl, ⟨0, by decide, rfl⟩, ⟨0, by decide, rfl⟩, ⟨0, by decide, rfl⟩⟩
    | 3, _ => exact ⟨rfl, rfl, by decide +kernel, rfl, ⟨6, by decide, rfl⟩, ⟨0, by decide, rfl⟩, ⟨0, by decide, rfl⟩⟩
    | 4, _ => exact ⟨rfl, rfl, by decide +kernel, rfl, ⟨1, by decide, rfl⟩, ⟨0, by decide, rfl⟩, ⟨0, by decide, rfl⟩⟩
    | 5, _ => exact ⟨rfl, rfl, by decide +kernel, rfl, ⟨1, by decide, rfl⟩, ⟨0, by decide, rfl⟩, ⟨0, by decide, rfl⟩⟩
    | 6, _ => exact ⟨rfl, rfl, by decide +kernel, rfl, ⟨0, by decide, rfl⟩, ⟨0, by decide, rfl⟩, ⟨0, by decide, rfl⟩⟩
  · match a, ha with
    | 0, _ =>
      refine ⟨fun r hr => ?_, rfl, by decide +kernel, by decide +kernel, rfl⟩
      match r, hr with
      | 0, _ => exact ⟨rfl, ⟨0, by decide, rfl⟩⟩
      | 1, _ => exact ⟨rfl, ⟨0, by decide, rfl⟩⟩
      | 2, _ => exact ⟨rfl, ⟨0, by decide, rfl⟩⟩
      | 3, _ => exact ⟨rfl, ⟨0, by decide, rfl⟩⟩
      | 4, _ => exact ⟨rfl, ⟨0, by decide, rfl⟩⟩
    | 1, _ =>
      refine ⟨fun r hr => ?_, rfl, by decide +kernel, by decide +kernel, rfl⟩
      match r, hr with
      | 0, _ => exact ⟨rfl, ⟨0, by decide, rfl⟩⟩
      | 1, _ => exact ⟨rfl, ⟨0, by decide, rfl⟩⟩
      | 2, _ => exact ⟨rfl, ⟨0, by decide, rfl⟩⟩
      | 3, _ => exact ⟨rfl, ⟨0, by decide, rfl⟩⟩
      | 4, _ => exact ⟨rfl, ⟨0, by decide, rfl⟩⟩
    | 2, _ =>
      refine ⟨fun r hr => ?_, rfl, by decide +kernel, by decide +kernel, rfl⟩
      match r, hr with
      | 0, _ => exact ⟨rfl, ⟨0, by decide, rfl⟩⟩
      | 1, _ => exact ⟨rfl, ⟨0, by decide, rfl⟩⟩
      | 2, _ => exact ⟨rfl, ⟨0, by decide, rfl⟩⟩
      | 3, _ => exact ⟨rfl, ⟨0, by decide, rfl⟩⟩
      | 4, _ => exact ⟨rfl, ⟨0, by decide, rfl⟩⟩
theorem inv0 (HL HW1 HW2 : Nat → Nat → Nat) : INV 0 (HL, HW1, HW2, ch0, ch0, (fun _ => ch0), (z0, z0, (fun _ => z0), 0), (z0, 0, 0, 0), 0, z0, 0) (m0, z0, (z0, z0, z0, 0), 0, (0, 0, 0, 0, 0), z0, z0) :=
  (show INVx 0 ch0 (fun _ => ch0) 0 z0 0 m0 z0 0 from ⟨by decide, by decide, fun _ => ⟨0, by decide, rfl⟩, rel0, fun j hj => absurd hj (Nat.not_lt_zero _), ⟨0, 0, rfl, rfl, Nat.le_refl _, Nat.le_refl _⟩, fun j hj => absurd hj (Nat.not_lt_zero _), by decide⟩)
theorem foc_one {S : Type} {b : va_W} {b' : S → va_W} : FocU (([] ++ [b] : List va_W)).flatten b (fun u => ([b' u] : List va_W).flatten) b' := FocU.at1 0 rfl (fun _ => rfl) (fun _ => rfl)
theorem foc_two {S : Type} {a b : va_W} {b' : S → va_W} : FocU (([a] ++ [b] : List va_W)).flatten b (fun u => ([a, b' u] : List va_W).flatten) b' := FocU.at1 1 rfl (fun _ => rfl) (fun _ => rfl)
theorem whole_start {p : Program} {e : Env} {s : State} {m : MethodId} {below : List Frame} {meth : Method} {c : Code} (l : Launch) (hflags : l.flags = flags0) {b L : Nat} {xs : Nat → Int32} (hL : L ≤ 2048) (C0 : lw_At p s m meth c b L xs) : W p l e room_1 s m #[Value.ref b] below meth c s.heap [] 0 0 (lw_Z below #[Value.ref b] s) (entryFrame m ([Value.ref b] : List Value).toArray 4) := by
  obtain ⟨hx, hb, hr, hml, hown, hts, hX, hbl, hlk, hgv⟩ := C0
  have hd0 := Drawn.sameBut.refl s.drawn lw_cs
  obtain ⟨D, hK, hAO⟩ := k_all hts
  have hbA : ¬ s.heap.size ≤ b := Nat.not_le.mpr hbl
  have hST : ST (fun q => s.heap.size ≤ q) s s.heap := st_all hgv hts (fun a h => Nat.not_le.mpr h)
  have X : CX D p m c cL_law 4 s #[Value.ref b] RL (fun q => s.heap.size ≤ q) := ⟨⟨hx, hb, hml, hown, fun w h => hts w (all_tbl h)⟩, hK, hST, fun q h => h⟩
  have hw : Wd D (fun q => s.heap.size ≤ q) s.heap s.heap [] ([] : List va_W).flatten := ⟨va_P_iff.mpr fun q hq => absurd hq List.not_mem_nil, va_D_iff.mpr ⟨List.nodup_nil, fun q hq => absurd hq List.not_mem_nil⟩, va_S.rf⟩
  have hl : lv_has _ 4 [(0, .ref b)] := lv_entry [.ref b] (n := 4) (Nat.le_of_ble_eq_true rfl)
  rw [lg_entry_eq]
  refine r_new X hw nw_L_7 (Nat.le_of_ble_eq_true rfl) (Nat.le_of_ble_eq_true rfl) dL_law_0 (fun o H1 hw => ?_)
  refine lv_dup hx hb dL_law_3 rfl ?_
  refine r_callN X hAO hw (As := []) (rest := [.ref o]) lk_L_9 (c_X6_init l D _ o) foc_one rfl hl.1 (Nat.le_of_ble_eq_true rfl) ⟨Nat.le_of_ble_eq_true rfl, Nat.le_of_ble_eq_true rfl⟩ rfl dL_law_4 ⟨Nat.le_of_ble_eq_true rfl, Nat.le_of_ble_eq_true rfl⟩ (fun u H2 locs2 _ hw => ?_)
  obtain ⟨ha, ta, L6, w1, w2, M, y1, y2, HL, HW1, HW2, b0, b1, b2, b3, bw, u0, u1⟩ := u
  replace hw : Wd D (fun q => s.heap.size ≤ q) s.heap H2 locs2 ([WCs o ha ta L6 w1 w2 M y1 y2 b0 b1 b2 b3 bw u0 u1 D (HL, HW1, HW2, ch0, ch0, (fun _ => ch0), (z0, z0, (fun _ => z0), 0), (z0, 0, 0, 0), 0, z0, 0)] : List va_W).flatten := hw
  refine lv_astore_n (lv' := [(1, .ref o), (0, .ref b)]) hx hb dL_law_7 rfl hl (by decide) rfl (fun ls hl => ?_)
  refine r_new X hw nw_L_10 (Nat.le_of_ble_eq_true rfl) (Nat.le_of_ble_eq_true rfl) dL_law_8 (fun q H3 hw => ?_)
  refine lv_dup hx hb dL_law_11 rfl ?_
  refine r_callN X hAO hw (As := []) (rest := [.ref q]) lk_L_12 (c_X7_init l D _ q) foc_two rfl hl.1 (Nat.le_of_ble_eq_true rfl) ⟨Nat.le_of_ble_eq_true rfl, Nat.le_of_ble_eq_true rfl⟩ rfl dL_law_12 ⟨Nat.le_of_ble_eq_true rfl, Nat.le_of_ble_eq_true rfl⟩ (fun Lm H4 locs4 hu hw4 => ?_)
  subst hu
  replace hw4 : Wd D (fun q => s.heap.size ≤ q) s.heap H4 locs4 ([WCs o ha ta L6 w1 w2 M y1 y2 b0 b1 b2 b3 bw u0 u1 D (HL, HW1, HW2, ch0, ch0, (fun _ => ch0), (z0, z0, (fun _ => z0), 0), (z0, 0, 0, 0), 0, z0, 0), WRs Lm D (HL, HW1, HW2, ch0, ch0, (fun _ => ch0), (z0, z0, (fun _ => z0), 0), (z0, 0, 0, 0), 0, z0, 0) (m0, z0, (z0, z0, z0, 0), 0, (0, 0, 0, 0, 0), z0, z0)] : List va_W).flatten := hw4
  refine lv_astore_n (lv' := [(2, .ref (Lm 0)), (1, .ref o), (0, .ref b)]) hx hb dL_law_15 rfl hl (by decide) rfl (fun ls hl => ?_)
  refine lv_iconst (v := 0) hx hb dL_law_16 (by decide) ?_
  refine lv_istore_n (lv' := [(3, .int 0), (2, .ref (Lm 0)), (1, .ref o), (0, .ref b)]) hx hb dL_law_17 rfl hl (by decide) rfl (fun ls hl => ?_)
  refine law_loop o ha ta L6 w1 w2 M y1 y2 b0 b1 b2 b3 bw u0 u1 Lm X hX hbl hbA hL ⟨Nat.le_of_ble_eq_true rfl, Nat.le_of_ble_eq_true rfl⟩ (fun H locs ls ws w => ?_) 2054 0 0 _ _ _ _ _ (by decide) (by decide) (by decide) (inv0 HL HW1 HW2) hw4 (lv_sub hl [0, 3, 2, 1] rfl)
  refine lv_iconst (v := 1) hx hb dL_law_779 (by decide) ?_
  refine va_forget (fun q hq => w.2.2.2.2 q hq) ?_
  refine W.widen (show _ ≤ 600000 from Nat.le_of_ble_eq_true rfl) (show _ ≤ 7302249 from Nat.le_of_ble_eq_true rfl) ?_
  exact lw_ret (s := s) (d0 := s.drawn) hd0 hx hb hr hlk dL_law_780

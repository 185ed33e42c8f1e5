/-! the walk from the entry -/
theorem nw_L_54 : NW RL 54 6 8 [.null, .null, .null, .null, .null, .int 0, .null, .int 0] := ⟨RX6, TX6, tyX6, ui_X6, tyX6_ok, rfl, in_all 11 (by decide +kernel) rfl, in_all 12 (by decide +kernel) rfl, in_all 2 (by decide +kernel) rfl, fun j hj => by
  have h : j = 0 ∨ j = 1 ∨ j = 2 ∨ j = 3 ∨ j = 4 ∨ j = 5 ∨ j = 6 ∨ j = 7 := by omega
  rcases h with rfl | rfl | rfl | rfl | rfl | rfl | rfl | rfl <;> rfl⟩
abbrev v0 : Row := upd (upd (upd z0 3 6) 4 1) 5 1
abbrev t0 : Row := upd (upd z0 8 2) 10 16
theorem lr0 : LR 0 z0 z0 ch0 (v0, z0, t0, z0) := by
  refine ⟨fun i hi => ?_, ⟨⟨0, by decide, rfl⟩, ⟨0, by decide, rfl⟩, by decide +kernel, fun a ha => ?_⟩, ⟨0, 0, rfl, by decide, rfl, rfl, by decide⟩, rfl, rfl, rfl, rfl, rfl, rfl, rfl, rfl, rfl, rfl, 0, 16, 2, rfl, rfl, rfl, by decide, by decide, by decide, by decide⟩
  · match i, hi with
    | 0, _ => exact ⟨rfl, rfl, by decide +kernel, rfl, ⟨0, by decide, rfl⟩, ⟨0, by decide, rfl⟩, ⟨0, by decide, rfl⟩⟩
    | 1, _ => exact ⟨rfl, rfl, by decide +kernel, rfl, ⟨0, by decide, rfl⟩, ⟨0, by decide, rfl⟩, ⟨0, by decide, rfl⟩⟩
    | 2, _ => exact ⟨rfl, rfl, by decide +kernel, rfl, ⟨0, by decide, rfl⟩, ⟨0, by decide, rfl⟩, ⟨0, by decide, rfl⟩⟩
    | 3, _ => exact ⟨rfl, rfl, by decide +kernel, rfl, ⟨6, by decide, rfl⟩, ⟨0, by decide, rfl⟩, ⟨0, by decide, rfl⟩⟩
    | 4, _ => exact ⟨rfl, rfl, by decide +kernel, rfl, ⟨1, by decide, rfl⟩, ⟨0, by decide, rfl⟩, ⟨0, by decide, rfl⟩⟩
    | 5, _ => exact ⟨rfl, rfl, by decide +kernel, rfl, ⟨1, by decide, rfl⟩, ⟨0, by decide, rfl⟩, ⟨0, by decide, rfl⟩⟩
    | 6, _ => exact ⟨rfl, rfl, by decide +kernel, rfl, ⟨0, by decide, rfl⟩, ⟨0, by decide, rfl⟩, ⟨0, by decide, rfl⟩⟩
  · match a, ha with
    | 0, _ =>
      refine ⟨fun r hr => ?_, rfl, by decide +kernel, by decide +kernel, rfl⟩
      match r, hr with
      | 0, _ => exact ⟨rfl, ⟨0, by decide, rfl⟩⟩
      | 1, _ => exact ⟨rfl, ⟨0, by decide, rfl⟩⟩
      | 2, _ => exact ⟨rfl, ⟨0, by decide, rfl⟩⟩
      | 3, _ => exact ⟨rfl, ⟨0, by decide, rfl⟩⟩
      | 4, _ => exact ⟨rfl, ⟨0, by decide, rfl⟩⟩
    | 1, _ =>
      refine ⟨fun r hr => ?_, rfl, by decide +kernel, by decide +kernel, rfl⟩
      match r, hr with
      | 0, _ => exact ⟨rfl, ⟨0, by decide, rfl⟩⟩
      | 1, _ => exact ⟨rfl, ⟨0, by decide, rfl⟩⟩
      | 2, _ => exact ⟨rfl, ⟨0, by decide, rfl⟩⟩
      | 3, _ => exact ⟨rfl, ⟨0, by decide, rfl⟩⟩
      | 4, _ => exact ⟨rfl, ⟨0, by decide, rfl⟩⟩
    | 2, _ =>
      refine ⟨fun r hr => ?_, rfl, by decide +kernel, by decide +kernel, rfl⟩
      match r, hr with
      | 0, _ => exact ⟨rfl, ⟨0, by decide, rfl⟩⟩
      | 1, _ => exact ⟨rfl, ⟨0, by decide, rfl⟩⟩
      | 2, _ => exact ⟨rfl, ⟨0, by decide, rfl⟩⟩
      | 3, _ => exact ⟨rfl, ⟨0, by decide, rfl⟩⟩
      | 4, _ => exact ⟨rfl, ⟨0, by decide, rfl⟩⟩
theorem foc_one {S : Type} {b : va_W} {b' : S → va_W} : FocU (([] ++ [b] : List va_W)).flatten b (fun u => ([b' u] : List va_W).flatten) b' := FocU.at1 0 rfl (fun _ => rfl) (fun _ => rfl)
set_option maxRecDepth 100000 in
set_option maxHeartbeats 40000000 in
theorem whole_start {p : Program} {e : Env} {s : State} {m : MethodId} {below : List Frame} {meth : Method} {c : Code} (l : Launch) (hflags : l.flags = flags0) {b L : Nat} {xs : Nat → Int32} (hL : L ≤ 260) (C0 : lw_At p s m meth c b L xs) : W p l e room_1 s m #[Value.ref b] below meth c s.heap [] 0 0 (lw_Z below #[Value.ref b] s) (entryFrame m ([Value.ref b] : List Value).toArray 13) := by
  obtain ⟨hx, hb, hr, hml, hown, hts, hX, hbl, hlk, hgv⟩ := C0
  obtain ⟨D, hK, hAO⟩ := k_all hts
  have hbA : ¬ s.heap.size ≤ b := Nat.not_le.mpr hbl
  have hST : ST (fun q => s.heap.size ≤ q) s s.heap := st_all hgv hts (fun a h => Nat.not_le.mpr h)
  have hT : SX b L xs (fun q => s.heap.size ≤ q) s s.heap := sx_of hX hL hbA
  have X : CX D p m c cL_law 13 s #[Value.ref b] RL (fun q => s.heap.size ≤ q) := ⟨⟨hx, hb, hml, hown, fun w h => hts w (all_tbl h)⟩, hK, hST, fun q h => h⟩
  have hw : Wd D (fun q => s.heap.size ≤ q) s.heap s.heap [] ([] : List va_W).flatten := ⟨va_P_iff.mpr fun q hq => absurd hq List.not_mem_nil, va_D_iff.mpr ⟨List.nodup_nil, fun q hq => absurd hq List.not_mem_nil⟩, va_S.rf⟩
  have hl : lv_has _ 13 [(0, .ref b)] := lv_entry [.ref b] (n := 13) (Nat.le_of_ble_eq_true rfl)
  rw [lg_entry_eq]
  refine r_new X hw nw_L_54 (Nat.le_of_ble_eq_true rfl) (Nat.le_of_ble_eq_true rfl) dL_law_0 (fun o H1 hw => ?_)
  refine lv_dup hx hb dL_law_3 rfl ?_
  refine r_callN X hAO hw (As := []) (rest := [.ref o]) lk_L_116 (c_X6_init l D _ o) foc_one rfl hl.1 (Nat.le_of_ble_eq_true rfl) ⟨Nat.le_of_ble_eq_true rfl, Nat.le_of_ble_eq_true rfl⟩ rfl dL_law_4 ⟨Nat.le_of_ble_eq_true rfl, Nat.le_of_ble_eq_true rfl⟩ (fun u H2 locs2 _ hw => ?_)
  obtain ⟨ha, ta, L6, w1, w2, M, y1, y2, HL, HW1, HW2, b0, b1, b2, b3, bw, u0, u1⟩ := u
  obtain ⟨zz0, hzz⟩ : ∃ zz0 : OX, zz0 = (ha, ta, L6, w1, w2, M, y1, y2, HL, HW1, HW2, b0, b1, b2, b3, bw, u0, u1, z0, 0, ch0, (fun _ => ch0), z0, z0, (fun _ => z0), 0, z0, 0, 0, 0, 0) := ⟨_, rfl⟩
  replace hw : Wd D (fun q => s.heap.size ≤ q) s.heap H2 locs2 ([OB D o zz0 ch0] : List va_W).flatten := by rw [hzz]; exact hw
  have hz0 : zOK zz0 := by rw [hzz]; exact ⟨Nat.zero_le 4, Nat.zero_le 60⟩
  refine lv_astore_n (lv' := [(1, .ref o), (0, .ref b)]) hx hb dL_law_7 rfl hl (by decide) rfl (fun ls hl => ?_)
  refine lv_bipush (v := 7) hx hb dL_law_8 (by decide) ?_
  refine r_newa X hw 7 rfl (by decide) (in_all 55 (by decide +kernel) rfl) (Nat.le_of_ble_eq_true rfl) (Nat.le_of_ble_eq_true rfl) dL_law_10 (fun q1 H hw => ?_)
  replace hw : Wd D (fun q => s.heap.size ≤ q) s.heap H _ (([OB D o zz0 ch0, [(q1, .inl (D.1 100, 7, .inl z0))]] : List va_W).flatten) := hw
  refine lv_astore_n (lv' := [(2, .ref q1), (1, .ref o), (0, .ref b)]) hx hb dL_law_12 rfl hl (by decide) rfl (fun ls hl => ?_)
  refine lv_bipush (v := 7) hx hb dL_law_13 (by decide) ?_
  refine r_newa X hw 7 rfl (by decide) (in_all 55 (by decide +kernel) rfl) (Nat.le_of_ble_eq_true rfl) (Nat.le_of_ble_eq_true rfl) dL_law_15 (fun q2 H hw => ?_)
  replace hw : Wd D (fun q => s.heap.size ≤ q) s.heap H _ (([OB D o zz0 ch0, [(q1, .inl (D.1 100, 7, .inl z0))], [(q2, .inl (D.1 100, 7, .inl z0))]] : List va_W).flatten) := hw
  refine lv_astore_n (lv' := [(3, .ref q2), (2, .ref q1), (1, .ref o), (0, .ref b)]) hx hb dL_law_17 rfl hl (by decide) rfl (fun ls hl => ?_)
  refine lv_bipush (v := 7) hx hb dL_law_18 (by decide) ?_
  refine r_newa X hw 7 rfl (by decide) (in_all 55 (by decide +kernel) rfl) (Nat.le_of_ble_eq_true rfl) (Nat.le_of_ble_eq_true rfl) dL_law_20 (fun q3 H hw => ?_)
  replace hw : Wd D (fun q => s.heap.size ≤ q) s.heap H _ (([OB D o zz0 ch0, [(q1, .inl (D.1 100, 7, .inl z0))], [(q2, .inl (D.1 100, 7, .inl z0))], [(q3, .inl (D.1 100, 7, .inl z0))]] : List va_W).flatten) := hw
  refine lv_astore (lv' := [(4, .ref q3), (3, .ref q2), (2, .ref q1), (1, .ref o), (0, .ref b)]) hx hb dL_law_22 hl (by decide) rfl (fun ls hl => ?_)
  refine lv_bipush (v := 7) hx hb dL_law_24 (by decide) ?_
  refine r_newa X hw 7 rfl (by decide) (in_all 55 (by decide +kernel) rfl) (Nat.le_of_ble_eq_true rfl) (Nat.le_of_ble_eq_true rfl) dL_law_26 (fun q4 H hw => ?_)
  replace hw : Wd D (fun q => s.heap.size ≤ q) s.heap H _ (([OB D o zz0 ch0, [(q1, .inl (D.1 100, 7, .inl z0))], [(q2, .inl (D.1 100, 7, .inl z0))], [(q3, .inl (D.1 100, 7, .inl z0))], [(q4, .inl (D.1 100, 7, .inl z0))]] : List va_W).flatten) := hw
  refine lv_astore (lv' := [(5, .ref q4), (4, .ref q3), (3, .ref q2), (2, .ref q1), (1, .ref o), (0, .ref b)]) hx hb dL_law_28 hl (by decide) rfl (fun ls hl => ?_)
  refine lv_bipush (v := 11) hx hb dL_law_30 (by decide) ?_
  refine r_newa X hw 11 rfl (by decide) (in_all 55 (by decide +kernel) rfl) (Nat.le_of_ble_eq_true rfl) (Nat.le_of_ble_eq_true rfl) dL_law_32 (fun q5 H hw => ?_)
  replace hw : Wd D (fun q => s.heap.size ≤ q) s.heap H _ (([OB D o zz0 ch0, [(q1, .inl (D.1 100, 7, .inl z0))], [(q2, .inl (D.1 100, 7, .inl z0))], [(q3, .inl (D.1 100, 7, .inl z0))], [(q4, .inl (D.1 100, 7, .inl z0))], [(q5, .inl (D.1 100, 11, .inl z0))]] : List va_W).flatten) := hw
  refine lv_astore (lv' := [(6, .ref q5), (5, .ref q4), (4, .ref q3), (3, .ref q2), (2, .ref q1), (1, .ref o), (0, .ref b)]) hx hb dL_law_34 hl (by decide) rfl (fun ls hl => ?_)
  refine lv_bipush (v := 27) hx hb dL_law_36 (by decide) ?_
  refine r_newa X hw 27 rfl (by decide) (in_all 55 (by decide +kernel) rfl) (Nat.le_of_ble_eq_true rfl) (Nat.le_of_ble_eq_true rfl) dL_law_38 (fun q6 H hw => ?_)
  replace hw : Wd D (fun q => s.heap.size ≤ q) s.heap H _ (([OB D o zz0 ch0, [(q1, .inl (D.1 100, 7, .inl z0))], [(q2, .inl (D.1 100, 7, .inl z0))], [(q3, .inl (D.1 100, 7, .inl z0))], [(q4, .inl (D.1 100, 7, .inl z0))], [(q5, .inl (D.1 100, 11, .inl z0))], [(q6, .inl (D.1 100, 27, .inl z0))]] : List va_W).flatten) := hw
  refine lv_astore (lv' := [(7, .ref q6), (6, .ref q5), (5, .ref q4), (4, .ref q3), (3, .ref q2), (2, .ref q1), (1, .ref o), (0, .ref b)]) hx hb dL_law_40 hl (by decide) rfl (fun ls hl => ?_)
  refine lv_bipush (v := 64) hx hb dL_law_42 (by decide) ?_
  refine r_newa X hw 64 rfl (by decide) (in_all 55 (by decide +kernel) rfl) (Nat.le_of_ble_eq_true rfl) (Nat.le_of_ble_eq_true rfl) dL_law_44 (fun q7 H hw => ?_)
  replace hw : Wd D (fun q => s.heap.size ≤ q) s.heap H _ (([OB D o zz0 ch0, [(q1, .inl (D.1 100, 7, .inl z0))], [(q2, .inl (D.1 100, 7, .inl z0))], [(q3, .inl (D.1 100, 7, .inl z0))], [(q4, .inl (D.1 100, 7, .inl z0))], [(q5, .inl (D.1 100, 11, .inl z0))], [(q6, .inl (D.1 100, 27, .inl z0))], [(q7, .inl (D.1 100, 64, .inl z0))]] : List va_W).flatten) := hw
  refine lv_astore (lv' := [(8, .ref q7), (7, .ref q6), (6, .ref q5), (5, .ref q4), (4, .ref q3), (3, .ref q2), (2, .ref q1), (1, .ref o), (0, .ref b)]) hx hb dL_law_46 hl (by decide) rfl (fun ls hl => ?_)
  refine lv_bipush (v := 14) hx hb dL_law_48 (by decide) ?_
  refine r_newa X hw 14 rfl (by decide) (in_all 55 (by decide +kernel) rfl) (Nat.le_of_ble_eq_true rfl) (Nat.le_of_ble_eq_true rfl) dL_law_50 (fun q8 H hw => ?_)
  replace hw : Wd D (fun q => s.heap.size ≤ q) s.heap H _ (([OB D o zz0 ch0, [(q1, .inl (D.1 100, 7, .inl z0))], [(q2, .inl (D.1 100, 7, .inl z0))], [(q3, .inl (D.1 100, 7, .inl z0))], [(q4, .inl (D.1 100, 7, .inl z0))], [(q5, .inl (D.1 100, 11, .inl z0))], [(q6, .inl (D.1 100, 27, .inl z0))], [(q7, .inl (D.1 100, 64, .inl z0))], [(q8, .inl (D.1 100, 14, .inl z0))]] : List va_W).flatten) := hw
  refine lv_astore (lv' := [(9, .ref q8), (8, .ref q7), (7, .ref q6), (6, .ref q5), (5, .ref q4), (4, .ref q3), (3, .ref q2), (2, .ref q1), (1, .ref o), (0, .ref b)]) hx hb dL_law_52 hl (by decide) rfl (fun ls hl => ?_)
  refine lv_aload_n hx hb dL_law_54 rfl (lv_at hl 7 rfl) ?_
  refine lv_iconst (v := 3) hx hb dL_law_55 (by decide) ?_
  refine lv_bipush (v := 6) hx hb dL_law_56 (by decide) ?_
  refine r_iast X hw (ws' := ([OB D o zz0 ch0, [(q1, .inl (D.1 100, 7, .inl (upd z0 3 6)))], [(q2, .inl (D.1 100, 7, .inl z0))], [(q3, .inl (D.1 100, 7, .inl z0))], [(q4, .inl (D.1 100, 7, .inl z0))], [(q5, .inl (D.1 100, 11, .inl z0))], [(q6, .inl (D.1 100, 27, .inl z0))], [(q7, .inl (D.1 100, 64, .inl z0))], [(q8, .inl (D.1 100, 14, .inl z0))]] : List va_W).flatten) 3 rfl (by decide) (by decide) (Foc.trans (Foc.at1 1 rfl rfl (ce rfl (ce rfl (ce rfl (ce rfl (ce rfl (ce rfl (ce rfl (ce rfl rfl))))))))) (Foc.cell 0 rfl rfl rfl)) dL_law_58 (fun H locs hw => ?_)
  refine lv_aload_n hx hb dL_law_59 rfl (lv_at hl 7 rfl) ?_
  refine lv_iconst (v := 4) hx hb dL_law_60 (by decide) ?_
  refine lv_iconst (v := 1) hx hb dL_law_61 (by decide) ?_
  refine r_iast X hw (ws' := ([OB D o zz0 ch0, [(q1, .inl (D.1 100, 7, .inl (upd (upd z0 3 6) 4 1)))], [(q2, .inl (D.1 100, 7, .inl z0))], [(q3, .inl (D.1 100, 7, .inl z0))], [(q4, .inl (D.1 100, 7, .inl z0))], [(q5, .inl (D.1 100, 11, .inl z0))], [(q6, .inl (D.1 100, 27, .inl z0))], [(q7, .inl (D.1 100, 64, .inl z0))], [(q8, .inl (D.1 100, 14, .inl z0))]] : List va_W).flatten) 4 rfl (by decide) (by decide) (Foc.trans (Foc.at1 1 rfl rfl (ce rfl (ce rfl (ce rfl (ce rfl (ce rfl (ce rfl (ce rfl (ce rfl rfl))))))))) (Foc.cell 0 rfl rfl rfl)) dL_law_62 (fun H locs hw => ?_)
  refine lv_aload_n hx hb dL_law_63 rfl (lv_at hl 7 rfl) ?_
  refine lv_iconst (v := 5) hx hb dL_law_64 (by decide) ?_
  refine lv_iconst (v := 1) hx hb dL_law_65 (by decide) ?_
  refine r_iast X hw (ws' := ([OB D o zz0 ch0, [(q1, .inl (D.1 100, 7, .inl (upd (upd (upd z0 3 6) 4 1) 5 1)))], [(q2, .inl (D.1 100, 7, .inl z0))], [(q3, .inl (D.1 100, 7, .inl z0))], [(q4, .inl (D.1 100, 7, .inl z0))], [(q5, .inl (D.1 100, 11, .inl z0))], [(q6, .inl (D.1 100, 27, .inl z0))], [(q7, .inl (D.1 100, 64, .inl z0))], [(q8, .inl (D.1 100, 14, .inl z0))]] : List va_W).flatten) 5 rfl (by decide) (by decide) (Foc.trans (Foc.at1 1 rfl rfl (ce rfl (ce rfl (ce rfl (ce rfl (ce rfl (ce rfl (ce rfl (ce rfl rfl))))))))) (Foc.cell 0 rfl rfl rfl)) dL_law_66 (fun H locs hw => ?_)
  refine lv_aload hx hb dL_law_67 (lv_at hl 3 rfl) ?_
  refine lv_bipush (v := 8) hx hb dL_law_69 (by decide) ?_
  refine lv_iconst (v := 2) hx hb dL_law_71 (by decide) ?_
  refine r_iast X hw (ws' := ([OB D o zz0 ch0, [(q1, .inl (D.1 100, 7, .inl (upd (upd (upd z0 3 6) 4 1) 5 1)))], [(q2, .inl (D.1 100, 7, .inl z0))], [(q3, .inl (D.1 100, 7, .inl z0))], [(q4, .inl (D.1 100, 7, .inl z0))], [(q5, .inl (D.1 100, 11, .inl (upd z0 8 2)))], [(q6, .inl (D.1 100, 27, .inl z0))], [(q7, .inl (D.1 100, 64, .inl z0))], [(q8, .inl (D.1 100, 14, .inl z0))]] : List va_W).flatten) 8 rfl (by decide) (by decide) (Foc.trans (Foc.at1 5 rfl rfl (ce rfl (ce rfl (ce rfl (ce rfl (ce rfl (ce rfl (ce rfl (ce rfl rfl))))))))) (Foc.cell 0 rfl rfl rfl)) dL_law_72 (fun H locs hw => ?_)
  refine lv_aload hx hb dL_law_73 (lv_at hl 3 rfl) ?_
  refine lv_bipush (v := 10) hx hb dL_law_75 (by decide) ?_
  refine lv_bipush (v := 16) hx hb dL_law_77 (by decide) ?_
  refine r_iast X hw (ws' := ([OB D o zz0 ch0, [(q1, .inl (D.1 100, 7, .inl (upd (upd (upd z0 3 6) 4 1) 5 1)))], [(q2, .inl (D.1 100, 7, .inl z0))], [(q3, .inl (D.1 100, 7, .inl z0))], [(q4, .inl (D.1 100, 7, .inl z0))], [(q5, .inl (D.1 100, 11, .inl (upd (upd z0 8 2) 10 16)))], [(q6, .inl (D.1 100, 27, .inl z0))], [(q7, .inl (D.1 100, 64, .inl z0))], [(q8, .inl (D.1 100, 14, .inl z0))]] : List va_W).flatten) 10 rfl (by decide) (by decide) (Foc.trans (Foc.at1 5 rfl rfl (ce rfl (ce rfl (ce rfl (ce rfl (ce rfl (ce rfl (ce rfl (ce rfl rfl))))))))) (Foc.cell 0 rfl rfl rfl)) dL_law_79 (fun H locs hw => ?_)
  refine lv_iconst (v := 0) hx hb dL_law_80 (by decide) ?_
  refine lv_istore (lv' := [(10, .int 0), (9, .ref q8), (8, .ref q7), (7, .ref q6), (6, .ref q5), (5, .ref q4), (4, .ref q3), (3, .ref q2), (2, .ref q1), (1, .ref o), (0, .ref b)]) hx hb dL_law_81 hl (by decide) rfl (fun ls hl => ?_)
  refine law_loop o q1 q2 q3 q4 q5 q6 q7 q8 X hT hL (fun H locs ls ws cl sl h1 h2 w => ?_) 58 0 _ _ (zz0, ch0, z0, z0, (upd (upd (upd z0 3 6) 4 1) 5 1, z0, upd (upd z0 8 2) 10 16, z0), z0, z0) _ _ _ (by decide) (by decide) (Nat.le_of_ble_eq_true rfl) (Nat.le_of_ble_eq_true rfl) ⟨hz0, lr0⟩ hw (lv_sub hl [0, 10, 9, 8, 7, 6, 5, 4, 3, 2, 1] rfl)
  refine lv_iconst (v := 1) hx hb dL_law_208 (by decide) ?_
  refine va_forget (fun q hq => w.2.2.2.2 q hq) ?_
  refine W.widen h1 h2 ?_
  exact lw_ret (s := s) hx hb hr hlk dL_law_209

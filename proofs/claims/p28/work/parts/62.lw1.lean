noncomputable def sp_L_number  (y : Int32) : Int32 := ((y / 16) * 10) + (y - y / 16 * 16)
set_option maxRecDepth 100000 in
set_option maxHeartbeats 4000000 in
theorem c_L_number (l : Launch) (D : va_G) (sz : Nat)  (y : Int32) : MI l yL_number cL_number 1 (some .int) 0 0 D sz [.int y] [] (sp_L_number y) ([]) := by
  refine r_enterI (by decide) (Nat.le_of_ble_eq_true rfl) ?_
  intro p e st m args below meth c ls A X hret hk hw hl
  have X : CX D p m c cL_number 1 st args RL A := X
  have hx := X.1.1
  have hb := X.1.2.1
  have hown := X.1.2.2.2.1
  have hts := X.1.2.2.2.2
  have hl : lv_has ls 1 [(0, .int y)] := hl
  refine lv_iload_n hx hb dL_number_0 rfl (lv_at hl 0 rfl) ?_
  refine lv_bipush (v := 16) hx hb dL_number_1 (by decide) ?_
  refine lv_idiv hx hb dL_number_3 (by decide) ?_
  refine lv_bipush (v := 10) hx hb dL_number_4 (by decide) ?_
  refine lv_imul hx hb dL_number_6 ?_
  refine lv_iload_n hx hb dL_number_7 rfl (lv_at hl 0 rfl) ?_
  refine lv_bipush (v := 16) hx hb dL_number_8 (by decide) ?_
  refine lv_irem hx hb dL_number_10 (by decide) ?_
  refine lv_iadd hx hb dL_number_11 ?_
  exact r_ret X hw hk hret rfl (rfl) rfl dL_number_12

noncomputable def sp_L_isCode  (y : Int32) (lo : Int32) (hi : Int32) : Int32 := (if 10 ≤ (y - y / 16 * 16) then 0 else (if 10 ≤ (y / 16) then 0 else (if (sp_L_number y) < lo then 0 else (if hi < (sp_L_number y) then 0 else 1))))
theorem bo_L_isCode  (y : Int32) (lo : Int32) (hi : Int32) : sp_L_isCode y lo hi = 0 ∨ sp_L_isCode y lo hi = 1 := by
  unfold sp_L_isCode
  (repeat' split) <;> first | exact Or.inl rfl | exact Or.inr rfl
set_option maxRecDepth 100000 in
set_option maxHeartbeats 4000000 in
theorem c_L_isCode (l : Launch) (D : va_G) (sz : Nat)  (y : Int32) (lo : Int32) (hi : Int32) : MI l yL_isCode cL_isCode 3 (some .boolean) 1 20 D sz [.int y, .int lo, .int hi] [] (sp_L_isCode y lo hi) ([]) := by
  refine r_enterI (by decide) (Nat.le_of_ble_eq_true rfl) ?_
  intro p e st m args below meth c ls A X hret hk hw hl
  have X : CX D p m c cL_isCode 3 st args RL A := X
  have hx := X.1.1
  have hb := X.1.2.1
  have hown := X.1.2.2.2.1
  have hts := X.1.2.2.2.2
  have hl : lv_has ls 3 [(0, .int y), (1, .int lo), (2, .int hi)] := hl
  refine lv_iload_n hx hb dL_isCode_0 rfl (lv_at hl 0 rfl) ?_
  refine lv_bipush (v := 16) hx hb dL_isCode_1 (by decide) ?_
  refine lv_irem hx hb dL_isCode_3 (by decide) ?_
  refine lv_bipush (v := 10) hx hb dL_isCode_4 (by decide) ?_
  refine lv_icmp_ge (tgt := 38) hx hb dL_isCode_6 (by decide) (fun c1 => ?_) (fun c1 => ?_)
  · skip
    refine lv_iconst (v := 0) hx hb dL_isCode_38 (by decide) ?_
    exact r_ret X hw hk hret rfl (by unfold sp_L_isCode; rw [if_pos c1]) rfl dL_isCode_39
  · skip
    refine lv_iload_n hx hb dL_isCode_9 rfl (lv_at hl 0 rfl) ?_
    refine lv_bipush (v := 16) hx hb dL_isCode_10 (by decide) ?_
    refine lv_idiv hx hb dL_isCode_12 (by decide) ?_
    refine lv_bipush (v := 10) hx hb dL_isCode_13 (by decide) ?_
    refine lv_icmp_ge (tgt := 38) hx hb dL_isCode_15 (by decide) (fun c2 => ?_) (fun c2 => ?_)
    · skip
      refine lv_iconst (v := 0) hx hb dL_isCode_38 (by decide) ?_
      exact r_ret X hw hk hret rfl (by unfold sp_L_isCode; rw [if_neg c1]; rw [if_pos c2]) rfl dL_isCode_39
    · skip
      refine lv_iload_n hx hb dL_isCode_18 rfl (lv_at hl 0 rfl) ?_
      refine r_callS X hw (ws' := []) (As := [.int y]) (rest := []) lk_L_9 (c_L_number l D _ y) Foc.nil rfl hl.1 (Nat.le_of_ble_eq_true rfl) ⟨Nat.le_of_ble_eq_true rfl, Nat.le_of_ble_eq_true rfl⟩ rfl dL_isCode_19 ⟨Nat.le_refl _, Nat.le_refl _⟩ (fun H locs hw => ?_)
      refine lv_iload_n hx hb dL_isCode_22 rfl (lv_at hl 1 rfl) ?_
      refine lv_icmp_lt (tgt := 38) hx hb dL_isCode_23 (by decide) (fun c3 => ?_) (fun c3 => ?_)
      · skip
        refine lv_iconst (v := 0) hx hb dL_isCode_38 (by decide) ?_
        exact r_ret X hw hk hret rfl (by unfold sp_L_isCode; rw [if_neg c1]; rw [if_neg c2]; rw [if_pos c3]) rfl dL_isCode_39
      · skip
        refine lv_iload_n hx hb dL_isCode_26 rfl (lv_at hl 0 rfl) ?_
        refine r_callS X hw (ws' := []) (As := [.int y]) (rest := []) lk_L_9 (c_L_number l D _ y) Foc.nil rfl hl.1 (Nat.le_of_ble_eq_true rfl) ⟨Nat.le_of_ble_eq_true rfl, Nat.le_of_ble_eq_true rfl⟩ rfl dL_isCode_27 ⟨Nat.le_refl _, Nat.le_refl _⟩ (fun H locs hw => ?_)
        refine lv_iload_n hx hb dL_isCode_30 rfl (lv_at hl 2 rfl) ?_
        refine lv_icmp_gt (tgt := 38) hx hb dL_isCode_31 (by decide) (fun c4 => ?_) (fun c4 => ?_)
        · skip
          refine lv_iconst (v := 0) hx hb dL_isCode_38 (by decide) ?_
          exact r_ret X hw hk hret rfl (by unfold sp_L_isCode; rw [if_neg c1]; rw [if_neg c2]; rw [if_neg c3]; rw [if_pos c4]) rfl dL_isCode_39
        · skip
          refine lv_iconst (v := 1) hx hb dL_isCode_34 (by decide) ?_
          refine lv_goto (tgt := 39) hx hb dL_isCode_35 (by decide) ?_
          exact r_ret X hw hk hret rfl (by unfold sp_L_isCode; rw [if_neg c1]; rw [if_neg c2]; rw [if_neg c3]; rw [if_neg c4]) rfl dL_isCode_39

noncomputable def sp_L_month (xv : Row) : Int32 := (if (sp_L_isCode (xv 5) 1 12) = 0 then 31 else (if (sp_L_isCode (xv 6) 0 99) = 0 then (if (sp_L_number (xv 5)) = 2 then 28 else (if (sp_L_number (xv 5)) = 4 then 30 else (if (sp_L_number (xv 5)) = 6 then 30 else (if (sp_L_number (xv 5)) = 9 then 30 else (if (sp_L_number (xv 5)) = 11 then 30 else 31))))) else (if ((sp_L_number (xv 6)) - (sp_L_number (xv 6)) / 4 * 4) = 0 then (if (sp_L_number (xv 5)) = 2 then 29 else (if (sp_L_number (xv 5)) = 4 then 30 else (if (sp_L_number (xv 5)) = 6 then 30 else (if (sp_L_number (xv 5)) = 9 then 30 else (if (sp_L_number (xv 5)) = 11 then 30 else 31))))) else (if (sp_L_number (xv 5)) = 2 then 28 else (if (sp_L_number (xv 5)) = 4 then 30 else (if (sp_L_number (xv 5)) = 6 then 30 else (if (sp_L_number (xv 5)) = 9 then 30 else (if (sp_L_number (xv 5)) = 11 then 30 else 31))))))))
set_option maxRecDepth 100000 in
set_option maxHeartbeats 4000000 in
theorem c_L_month (l : Launch) (D : va_G) (sz : Nat) (kv : Nat) (xv : Row) : MI l yL_month cL_month 3 (some .int) 2 42 D sz [.ref kv] ([(kv, .inl (D.1 100, 7, .inl xv))]) (sp_L_month xv) ([(kv, .inl (D.1 100, 7, .inl xv))]) := by
  refine r_enterI (by decide) (Nat.le_of_ble_eq_true rfl) ?_
  intro p e st m args below meth c ls A X hret hk hw hl
  have X : CX D p m c cL_month 3 st args RL A := X
  have hx := X.1.1
  have hb := X.1.2.1
  have hown := X.1.2.2.2.1
  have hts := X.1.2.2.2.2
  have hl : lv_has ls 3 [(0, .ref kv)] := hl
  refine lv_aload_n hx hb dL_month_0 rfl (lv_at hl 0 rfl) ?_
  refine lv_iconst (v := 5) hx hb dL_month_1 (by decide) ?_
  refine r_iald X hw (f := xv) 5 (m_at 0 rfl) rfl (by decide) (by decide) dL_month_2 ?_
  refine lv_iconst (v := 1) hx hb dL_month_3 (by decide) ?_
  refine lv_bipush (v := 12) hx hb dL_month_4 (by decide) ?_
  refine r_callS X hw (ws' := [(kv, .inl (D.1 100, 7, .inl xv))]) (As := [.int (xv 5), .int 1, .int 12]) (rest := []) lk_L_15 (c_L_isCode l D _ (xv 5) 1 12) Foc.nil rfl hl.1 (Nat.le_of_ble_eq_true rfl) ⟨Nat.le_of_ble_eq_true rfl, Nat.le_of_ble_eq_true rfl⟩ rfl dL_month_6 ⟨Nat.le_refl _, Nat.le_refl _⟩ (fun H locs hw => ?_)
  refine lv_if_ne (tgt := 15) hx hb dL_month_9 (by decide) (fun c1 => ?_) (fun c1 => ?_)
  · skip
    refine lv_aload_n hx hb dL_month_15 rfl (lv_at hl 0 rfl) ?_
    refine lv_iconst (v := 5) hx hb dL_month_16 (by decide) ?_
    refine r_iald X hw (f := xv) 5 (m_at 0 rfl) rfl (by decide) (by decide) dL_month_17 ?_
    refine r_callS X hw (ws' := [(kv, .inl (D.1 100, 7, .inl xv))]) (As := [.int (xv 5)]) (rest := []) lk_L_9 (c_L_number l D _ (xv 5)) Foc.nil rfl hl.1 (Nat.le_of_ble_eq_true rfl) ⟨Nat.le_of_ble_eq_true rfl, Nat.le_of_ble_eq_true rfl⟩ rfl dL_month_18 ⟨Nat.le_refl _, Nat.le_refl _⟩ (fun H locs hw => ?_)
    refine lv_istore_n (lv' := [(1, .int (sp_L_number (xv 5))), (0, .ref kv)]) hx hb dL_month_21 rfl hl (by decide) rfl (fun ls hl => ?_)
    refine lv_aload_n hx hb dL_month_22 rfl (lv_at hl 1 rfl) ?_
    refine lv_bipush (v := 6) hx hb dL_month_23 (by decide) ?_
    refine r_iald X hw (f := xv) 6 (m_at 0 rfl) rfl (by decide) (by decide) dL_month_25 ?_
    refine lv_iconst (v := 0) hx hb dL_month_26 (by decide) ?_
    refine lv_bipush (v := 99) hx hb dL_month_27 (by decide) ?_
    refine r_callS X hw (ws' := [(kv, .inl (D.1 100, 7, .inl xv))]) (As := [.int (xv 6), .int 0, .int 99]) (rest := []) lk_L_15 (c_L_isCode l D _ (xv 6) 0 99) Foc.nil rfl hl.1 (Nat.le_of_ble_eq_true rfl) ⟨Nat.le_of_ble_eq_true rfl, Nat.le_of_ble_eq_true rfl⟩ rfl dL_month_29 ⟨Nat.le_refl _, Nat.le_refl _⟩ (fun H locs hw => ?_)
    refine lv_if_eq (tgt := 51) hx hb dL_month_32 (by decide) (fun c2 => ?_) (fun c2 => ?_)
    · skip
      refine lv_iconst (v := 0) hx hb dL_month_51 (by decide) ?_
      refine lv_istore_n (lv' := [(2, .int 0), (1, .int (sp_L_number (xv 5))), (0, .ref kv)]) hx hb dL_month_52 rfl hl (by decide) rfl (fun ls hl => ?_)
      refine lv_iload_n hx hb dL_month_53 rfl (lv_at hl 1 rfl) ?_
      refine lv_iconst (v := 2) hx hb dL_month_54 (by decide) ?_
      refine lv_icmp_ne (tgt := 72) hx hb dL_month_55 (by decide) (fun c3 => ?_) (fun c3 => ?_)
      · skip
        refine lv_iload_n hx hb dL_month_72 rfl (lv_at hl 1 rfl) ?_
        refine lv_iconst (v := 4) hx hb dL_month_73 (by decide) ?_
        refine lv_icmp_eq (tgt := 95) hx hb dL_month_74 (by decide) (fun c4 => ?_) (fun c4 => ?_)
        · skip
          refine lv_bipush (v := 30) hx hb dL_month_95 (by decide) ?_
          refine lv_goto (tgt := 102) hx hb dL_month_97 (by decide) ?_
          exact r_ret X hw hk hret rfl (by unfold sp_L_month; rw [if_neg c1]; rw [if_pos c2]; rw [if_neg c3]; rw [if_pos c4]) rfl dL_month_102
        · skip
          refine lv_iload_n hx hb dL_month_77 rfl (lv_at hl 1 rfl) ?_
          refine lv_bipush (v := 6) hx hb dL_month_78 (by decide) ?_
          refine lv_icmp_eq (tgt := 95) hx hb dL_month_80 (by decide) (fun c5 => ?_) (fun c5 => ?_)
          · skip
            refine lv_bipush (v := 30) hx hb dL_month_95 (by decide) ?_
            refine lv_goto (tgt := 102) hx hb dL_month_97 (by decide) ?_
            exact r_ret X hw hk hret rfl (by unfold sp_L_month; rw [if_neg c1]; rw [if_pos c2]; rw [if_neg c3]; rw [if_neg c4]; rw [if_pos c5]) rfl dL_month_102
          · skip
            refine lv_iload_n hx hb dL_month_83 rfl (lv_at hl 1 rfl) ?_
            refine lv_bipush (v := 9) hx hb dL_month_84 (by decide) ?_
            refine lv_icmp_eq (tgt := 95) hx hb dL_month_86 (by decide) (fun c6 => ?_) (fun c6 => ?_)
            · skip
              refine lv_bipush (v := 30) hx hb dL_month_95 (by decide) ?_
              refine lv_goto (tgt := 102) hx hb dL_month_97 (by decide) ?_
              exact r_ret X hw hk hret rfl (by unfold sp_L_month; rw [if_neg c1]; rw [if_pos c2]; rw [if_neg c3]; rw [if_neg c4]; rw [if_neg c5]; rw [if_pos c6]) rfl dL_month_102
            · skip
              refine lv_iload_n hx hb dL_month_89 rfl (lv_at hl 1 rfl) ?_
              refine lv_bipush (v := 11) hx hb dL_month_90 (by decide) ?_
              refine lv_icmp_ne (tgt := 100) hx hb dL_month_92 (by decide) (fun c7 => ?_) (fun c7 => ?_)
              · skip
                refine lv_bipush (v := 31) hx hb dL_month_100 (by decide) ?_
                exact r_ret X hw hk hret rfl (by unfold sp_L_month; rw [if_neg c1]; rw [if_pos c2]; rw [if_neg c3]; rw [if_neg c4]; rw [if_neg c5]; rw [if_neg c6]; rw [if_neg c7]) rfl dL_month_102
              · skip
                refine lv_bipush (v := 30) hx hb dL_month_95 (by decide) ?_
                refine lv_goto (tgt := 102) hx hb dL_month_97 (by decide) ?_
                exact r_ret X hw hk hret rfl (by unfold sp_L_month; rw [if_neg c1]; rw [if_pos c2]; rw [if_neg c3]; rw [if_neg c4]; rw [if_neg c5]; rw [if_neg c6]; rw [if_pos c7]) rfl dL_month_102
      · skip
        refine lv_iload_n hx hb dL_month_58 rfl (lv_at hl 0 rfl) ?_
        refine lv_if_eq (tgt := 67) hx hb dL_month_59 (by decide) (fun _ => ?_) (fun h => absurd (by decide) h)
        refine lv_bipush (v := 28) hx hb dL_month_67 (by decide) ?_
        refine lv_goto (tgt := 102) hx hb dL_month_69 (by decide) ?_
        exact r_ret X hw hk hret rfl (by unfold sp_L_month; rw [if_neg c1]; rw [if_pos c2]; rw [if_pos c3]) rfl dL_month_102
    · skip
      refine lv_aload_n hx hb dL_month_35 rfl (lv_at hl 1 rfl) ?_
      refine lv_bipush (v := 6) hx hb dL_month_36 (by decide) ?_
      refine r_iald X hw (f := xv) 6 (m_at 0 rfl) rfl (by decide) (by decide) dL_month_38 ?_
      refine r_callS X hw (ws' := [(kv, .inl (D.1 100, 7, .inl xv))]) (As := [.int (xv 6)]) (rest := []) lk_L_9 (c_L_number l D _ (xv 6)) Foc.nil rfl hl.1 (Nat.le_of_ble_eq_true rfl) ⟨Nat.le_of_ble_eq_true rfl, Nat.le_of_ble_eq_true rfl⟩ rfl dL_month_39 ⟨Nat.le_refl _, Nat.le_refl _⟩ (fun H locs hw => ?_)
      refine lv_iconst (v := 4) hx hb dL_month_42 (by decide) ?_
      refine lv_irem hx hb dL_month_43 (by decide) ?_
      refine lv_if_ne (tgt := 51) hx hb dL_month_44 (by decide) (fun c8 => ?_) (fun c8 => ?_)
      · skip
        refine lv_iconst (v := 0) hx hb dL_month_51 (by decide) ?_
        refine lv_istore_n (lv' := [(2, .int 0), (1, .int (sp_L_number (xv 5))), (0, .ref kv)]) hx hb dL_month_52 rfl hl (by decide) rfl (fun ls hl => ?_)
        refine lv_iload_n hx hb dL_month_53 rfl (lv_at hl 1 rfl) ?_
        refine lv_iconst (v := 2) hx hb dL_month_54 (by decide) ?_
        refine lv_icmp_ne (tgt := 72) hx hb dL_month_55 (by decide) (fun c9 => ?_) (fun c9 => ?_)
        · skip
          refine lv_iload_n hx hb dL_month_72 rfl (lv_at hl 1 rfl) ?_
          refine lv_iconst (v := 4) hx hb dL_month_73 (by decide) ?_
          refine lv_icmp_eq (tgt := 95) hx hb dL_month_74 (by decide) (fun c10 => ?_) (fun c10 => ?_)
          · skip
            refine lv_bipush (v := 30) hx hb dL_month_95 (by decide) ?_
            refine lv_goto (tgt := 102) hx hb dL_month_97 (by decide) ?_
            exact r_ret X hw hk hret rfl (by unfold sp_L_month; rw [if_neg c1]; rw [if_neg c2]; rw [if_neg c8]; rw [if_neg c9]; rw [if_pos c10]) rfl dL_month_102
          · skip
            refine lv_iload_n hx hb dL_month_77 rfl (lv_at hl 1 rfl) ?_
            refine lv_bipush (v := 6) hx hb dL_month_78 (by decide) ?_
            refine lv_icmp_eq (tgt := 95) hx hb dL_month_80 (by decide) (fun c11 => ?_) (fun c11 => ?_)
            · skip
              refine lv_bipush (v := 30) hx hb dL_month_95 (by decide) ?_
              refine lv_goto (tgt := 102) hx hb dL_month_97 (by decide) ?_
              exact r_ret X hw hk hret rfl (by unfold sp_L_month; rw [if_neg c1]; rw [if_neg c2]; rw [if_neg c8]; rw [if_neg c9]; rw [if_neg c10]; rw [if_pos c11]) rfl dL_month_102
            · skip
              refine lv_iload_n hx hb dL_month_83 rfl (lv_at hl 1 rfl) ?_
              refine lv_bipush (v := 9) hx hb dL_month_84 (by decide) ?_
              refine lv_icmp_eq (tgt := 95) hx hb dL_month_86 (by decide) (fun c12 => ?_) (fun c12 => ?_)
              · skip
                refine lv_bipush (v := 30) hx hb dL_month_95 (by decide) ?_
                refine lv_goto (tgt := 102) hx hb dL_month_97 (by decide) ?_
                exact r_ret X hw hk hret rfl (by unfold sp_L_month; rw [if_neg c1]; rw [if_neg c2]; rw [if_neg c8]; rw [if_neg c9]; rw [if_neg c10]; rw [if_neg c11]; rw [if_pos c12]) rfl dL_month_102
              · skip
                refine lv_iload_n hx hb dL_month_89 rfl (lv_at hl 1 rfl) ?_
                refine lv_bipush (v := 11) hx hb dL_month_90 (by decide) ?_
                refine lv_icmp_ne (tgt := 100) hx hb dL_month_92 (by decide) (fun c13 => ?_) (fun c13 => ?_)
                · skip
                  refine lv_bipush (v := 31) hx hb dL_month_100 (by decide) ?_
                  exact r_ret X hw hk hret rfl (by unfold sp_L_month; rw [if_neg c1]; rw [if_neg c2]; rw [if_neg c8]; rw [if_neg c9]; rw [if_neg c10]; rw [if_neg c11]; rw [if_neg c12]; rw [if_neg c13]) rfl dL_month_102
                · skip
                  refine lv_bipush (v := 30) hx hb dL_month_95 (by decide) ?_
                  refine lv_goto (tgt := 102) hx hb dL_month_97 (by decide) ?_
                  exact r_ret X hw hk hret rfl (by unfold sp_L_month; rw [if_neg c1]; rw [if_neg c2]; rw [if_neg c8]; rw [if_neg c9]; rw [if_neg c10]; rw [if_neg c11]; rw [if_neg c12]; rw [if_pos c13]) rfl dL_month_102
        · skip
          refine lv_iload_n hx hb dL_month_58 rfl (lv_at hl 0 rfl) ?_
          refine lv_if_eq (tgt := 67) hx hb dL_month_59 (by decide) (fun _ => ?_) (fun h => absurd (by decide) h)
          refine lv_bipush (v := 28) hx hb dL_month_67 (by decide) ?_
          refine lv_goto (tgt := 102) hx hb dL_month_69 (by decide) ?_
          exact r_ret X hw hk hret rfl (by unfold sp_L_month; rw [if_neg c1]; rw [if_neg c2]; rw [if_neg c8]; rw [if_pos c9]) rfl dL_month_102
      · skip
        refine lv_iconst (v := 1) hx hb dL_month_47 (by decide) ?_
        refine lv_goto (tgt := 52) hx hb dL_month_48 (by decide) ?_
        refine lv_istore_n (lv' := [(2, .int 1), (1, .int (sp_L_number (xv 5))), (0, .ref kv)]) hx hb dL_month_52 rfl hl (by decide) rfl (fun ls hl => ?_)
        refine lv_iload_n hx hb dL_month_53 rfl (lv_at hl 1 rfl) ?_
        refine lv_iconst (v := 2) hx hb dL_month_54 (by decide) ?_
        refine lv_icmp_ne (tgt := 72) hx hb dL_month_55 (by decide) (fun c14 => ?_) (fun c14 => ?_)
        · skip
          refine lv_iload_n hx hb dL_month_72 rfl (lv_at hl 1 rfl) ?_
          refine lv_iconst (v := 4) hx hb dL_month_73 (by decide) ?_
          refine lv_icmp_eq (tgt := 95) hx hb dL_month_74 (by decide) (fun c15 => ?_) (fun c15 => ?_)
          · skip
            refine lv_bipush (v := 30) hx hb dL_month_95 (by decide) ?_
            refine lv_goto (tgt := 102) hx hb dL_month_97 (by decide) ?_
            exact r_ret X hw hk hret rfl (by unfold sp_L_month; rw [if_neg c1]; rw [if_neg c2]; rw [if_pos c8]; rw [if_neg c14]; rw [if_pos c15]) rfl dL_month_102
          · skip
            refine lv_iload_n hx hb dL_month_77 rfl (lv_at hl 1 rfl) ?_
            refine lv_bipush (v := 6) hx hb dL_month_78 (by decide) ?_
            refine lv_icmp_eq (tgt := 95) hx hb dL_month_80 (by decide) (fun c16 => ?_) (fun c16 => ?_)
            · skip
              refine lv_bipush (v := 30) hx hb dL_month_95 (by decide) ?_
              refine lv_goto (tgt := 102) hx hb dL_month_97 (by decide) ?_
              exact r_ret X hw hk hret rfl (by unfold sp_L_month; rw [if_neg c1]; rw [if_neg c2]; rw [if_pos c8]; rw [if_neg c14]; rw [if_neg c15]; rw [if_pos c16]) rfl dL_month_102
            · skip
              refine lv_iload_n hx hb dL_month_83 rfl (lv_at hl 1 rfl) ?_
              refine lv_bipush (v := 9) hx hb dL_month_84 (by decide) ?_
              refine lv_icmp_eq (tgt := 95) hx hb dL_month_86 (by decide) (fun c17 => ?_) (fun c17 => ?_)
              · skip
                refine lv_bipush (v := 30) hx hb dL_month_95 (by decide) ?_
                refine lv_goto (tgt := 102) hx hb dL_month_97 (by decide) ?_
                exact r_ret X hw hk hret rfl (by unfold sp_L_month; rw [if_neg c1]; rw [if_neg c2]; rw [if_pos c8]; rw [if_neg c14]; rw [if_neg c15]; rw [if_neg c16]; rw [if_pos c17]) rfl dL_month_102
              · skip
                refine lv_iload_n hx hb dL_month_89 rfl (lv_at hl 1 rfl) ?_
                refine lv_bipush (v := 11) hx hb dL_month_90 (by decide) ?_
                refine lv_icmp_ne (tgt := 100) hx hb dL_month_92 (by decide) (fun c18 => ?_) (fun c18 => ?_)
                · skip
                  refine lv_bipush (v := 31) hx hb dL_month_100 (by decide) ?_
                  exact r_ret X hw hk hret rfl (by unfold sp_L_month; rw [if_neg c1]; rw [if_neg c2]; rw [if_pos c8]; rw [if_neg c14]; rw [if_neg c15]; rw [if_neg c16]; rw [if_neg c17]; rw [if_neg c18]) rfl dL_month_102
                · skip
                  refine lv_bipush (v := 30) hx hb dL_month_95 (by decide) ?_
                  refine lv_goto (tgt := 102) hx hb dL_month_97 (by decide) ?_
                  exact r_ret X hw hk hret rfl (by unfold sp_L_month; rw [if_neg c1]; rw [if_neg c2]; rw [if_pos c8]; rw [if_neg c14]; rw [if_neg c15]; rw [if_neg c16]; rw [if_neg c17]; rw [if_pos c18]) rfl dL_month_102
        · skip
          refine lv_iload_n hx hb dL_month_58 rfl (lv_at hl 0 rfl) ?_
          refine lv_if_eq (tgt := 67) hx hb dL_month_59 (by decide) (fun h => absurd h (by decide)) (fun _ => ?_)
          refine lv_bipush (v := 29) hx hb dL_month_62 (by decide) ?_
          refine lv_goto (tgt := 102) hx hb dL_month_64 (by decide) ?_
          exact r_ret X hw hk hret rfl (by unfold sp_L_month; rw [if_neg c1]; rw [if_neg c2]; rw [if_pos c8]; rw [if_pos c14]) rfl dL_month_102
  · skip
    refine lv_bipush (v := 31) hx hb dL_month_12 (by decide) ?_
    exact r_ret X hw hk hret rfl (by unfold sp_L_month; rw [if_pos c1]) rfl dL_month_14

noncomputable def sp_L_most (xv : Row) (i : Nat) : Int32 := (if 2 ≤ i then (if i = 2 then 23 else (if i = 3 then 7 else (if i = 4 then sp_L_month xv else (if i = 5 then 12 else 99)))) else 59)
set_option maxRecDepth 100000 in
set_option maxHeartbeats 4000000 in
theorem c_L_most (l : Launch) (D : va_G) (sz : Nat) (kv : Nat) (xv : Row) (i : Nat) (hi : i < 7) : MI l yL_most cL_most 2 (some .int) 3 64 D sz [.ref kv, .int (nI i)] ([(kv, .inl (D.1 100, 7, .inl xv))]) (sp_L_most xv i) ([(kv, .inl (D.1 100, 7, .inl xv))]) := by
  refine r_enterI (by decide) (Nat.le_of_ble_eq_true rfl) ?_
  intro p e st m args below meth c ls A X hret hk hw hl
  have X : CX D p m c cL_most 2 st args RL A := X
  have hx := X.1.1
  have hb := X.1.2.1
  have hown := X.1.2.2.2.1
  have hts := X.1.2.2.2.2
  have hl : lv_has ls 2 [(0, .ref kv), (1, .int (nI i))] := hl
  refine lv_iload_n hx hb dL_most_0 rfl (lv_at hl 1 rfl) ?_
  refine lv_iconst (v := 2) hx hb dL_most_1 (by decide) ?_
  refine r_geN (tgt := 10) hx hb i 2 rfl rfl (by omega) (by omega) dL_most_2 (by decide) (fun c1 => ?_) (fun c1 => ?_)
  · skip
    refine lv_iload_n hx hb dL_most_10 rfl (lv_at hl 1 rfl) ?_
    refine lv_iconst (v := 2) hx hb dL_most_11 (by decide) ?_
    refine r_neN (tgt := 20) hx hb i 2 rfl rfl (by omega) (by omega) dL_most_12 (by decide) (fun c2 => ?_) (fun c2 => ?_)
    · skip
      refine lv_iload_n hx hb dL_most_20 rfl (lv_at hl 1 rfl) ?_
      refine lv_iconst (v := 3) hx hb dL_most_21 (by decide) ?_
      refine r_neN (tgt := 30) hx hb i 3 rfl rfl (by omega) (by omega) dL_most_22 (by decide) (fun c3 => ?_) (fun c3 => ?_)
      · skip
        refine lv_iload_n hx hb dL_most_30 rfl (lv_at hl 1 rfl) ?_
        refine lv_iconst (v := 4) hx hb dL_most_31 (by decide) ?_
        refine r_neN (tgt := 42) hx hb i 4 rfl rfl (by omega) (by omega) dL_most_32 (by decide) (fun c4 => ?_) (fun c4 => ?_)
        · skip
          refine lv_iload_n hx hb dL_most_42 rfl (lv_at hl 1 rfl) ?_
          refine lv_iconst (v := 5) hx hb dL_most_43 (by decide) ?_
          refine r_neN (tgt := 52) hx hb i 5 rfl rfl (by omega) (by omega) dL_most_44 (by decide) (fun c5 => ?_) (fun c5 => ?_)
          · skip
            refine lv_bipush (v := 99) hx hb dL_most_52 (by decide) ?_
            exact r_ret X hw hk hret rfl (by unfold sp_L_most; rw [if_pos c1]; rw [if_neg c2]; rw [if_neg c3]; rw [if_neg c4]; rw [if_neg c5]) rfl dL_most_54
          · skip
            refine lv_bipush (v := 12) hx hb dL_most_47 (by decide) ?_
            refine lv_goto (tgt := 54) hx hb dL_most_49 (by decide) ?_
            exact r_ret X hw hk hret rfl (by unfold sp_L_most; rw [if_pos c1]; rw [if_neg c2]; rw [if_neg c3]; rw [if_neg c4]; rw [if_pos c5]) rfl dL_most_54
        · skip
          refine lv_aload_n hx hb dL_most_35 rfl (lv_at hl 0 rfl) ?_
          refine r_callS X hw (ws' := [(kv, .inl (D.1 100, 7, .inl xv))]) (As := [.ref kv]) (rest := []) lk_L_19 (c_L_month l D _ kv xv) (Foc.pick [0] (r := []) rfl rfl) rfl hl.1 (Nat.le_of_ble_eq_true rfl) ⟨Nat.le_of_ble_eq_true rfl, Nat.le_of_ble_eq_true rfl⟩ rfl dL_most_36 ⟨Nat.le_refl _, Nat.le_refl _⟩ (fun H locs hw => ?_)
          refine lv_goto (tgt := 54) hx hb dL_most_39 (by decide) ?_
          exact r_ret X hw hk hret rfl (by unfold sp_L_most; rw [if_pos c1]; rw [if_neg c2]; rw [if_neg c3]; rw [if_pos c4]) rfl dL_most_54
      · skip
        refine lv_bipush (v := 7) hx hb dL_most_25 (by decide) ?_
        refine lv_goto (tgt := 54) hx hb dL_most_27 (by decide) ?_
        exact r_ret X hw hk hret rfl (by unfold sp_L_most; rw [if_pos c1]; rw [if_neg c2]; rw [if_pos c3]) rfl dL_most_54
    · skip
      refine lv_bipush (v := 23) hx hb dL_most_15 (by decide) ?_
      refine lv_goto (tgt := 54) hx hb dL_most_17 (by decide) ?_
      exact r_ret X hw hk hret rfl (by unfold sp_L_most; rw [if_pos c1]; rw [if_pos c2]) rfl dL_most_54
  · skip
    refine lv_bipush (v := 59) hx hb dL_most_5 (by decide) ?_
    refine lv_goto (tgt := 54) hx hb dL_most_7 (by decide) ?_
    exact r_ret X hw hk hret rfl (by unfold sp_L_most; rw [if_neg (Nat.not_le.mpr c1)]) rfl dL_most_54

noncomputable def sp_L_least  (i : Nat) : Int32 := (if i ≤ 2 then 0 else (if 6 ≤ i then 0 else 1))
set_option maxRecDepth 100000 in
set_option maxHeartbeats 4000000 in
theorem c_L_least (l : Launch) (D : va_G) (sz : Nat)  (i : Nat) (hi : i < 7) : MI l yL_least cL_least 1 (some .int) 0 0 D sz [.int (nI i)] [] (sp_L_least i) ([]) := by
  refine r_enterI (by decide) (Nat.le_of_ble_eq_true rfl) ?_
  intro p e st m args below meth c ls A X hret hk hw hl
  have X : CX D p m c cL_least 1 st args RL A := X
  have hx := X.1.1
  have hb := X.1.2.1
  have hown := X.1.2.2.2.1
  have hts := X.1.2.2.2.2
  have hl : lv_has ls 1 [(0, .int (nI i))] := hl
  refine lv_iload_n hx hb dL_least_0 rfl (lv_at hl 0 rfl) ?_
  refine lv_iconst (v := 2) hx hb dL_least_1 (by decide) ?_
  refine r_leN (tgt := 15) hx hb i 2 rfl rfl (by omega) (by omega) dL_least_2 (by decide) (fun c1 => ?_) (fun c1 => ?_)
  · skip
    refine lv_iconst (v := 0) hx hb dL_least_15 (by decide) ?_
    exact r_ret X hw hk hret rfl (by unfold sp_L_least; rw [if_pos c1]) rfl dL_least_16
  · skip
    refine lv_iload_n hx hb dL_least_5 rfl (lv_at hl 0 rfl) ?_
    refine lv_bipush (v := 6) hx hb dL_least_6 (by decide) ?_
    refine r_geN (tgt := 15) hx hb i 6 rfl rfl (by omega) (by omega) dL_least_8 (by decide) (fun c2 => ?_) (fun c2 => ?_)
    · skip
      refine lv_iconst (v := 0) hx hb dL_least_15 (by decide) ?_
      exact r_ret X hw hk hret rfl (by unfold sp_L_least; rw [if_neg (Nat.not_le.mpr c1)]; rw [if_pos c2]) rfl dL_least_16
    · skip
      refine lv_iconst (v := 1) hx hb dL_least_11 (by decide) ?_
      refine lv_goto (tgt := 16) hx hb dL_least_12 (by decide) ?_
      exact r_ret X hw hk hret rfl (by unfold sp_L_least; rw [if_neg (Nat.not_le.mpr c1)]; rw [if_neg (Nat.not_le.mpr c2)]) rfl dL_least_16

/-- what a value put leaves of its cells: the first k bits -/
def puB (y z u : Int32) (k : Nat) : Int32 := (if (y >>> ((nI k) &&& 31)) &&& 1 = 1 then (z >>> ((nI k) &&& 31)) &&& 1 else (u >>> ((nI k) &&& 31)) &&& 1) <<< ((nI k) &&& 31)
def puN (y z u : Int32) : Nat → Int32
  | 0 => 0
  | k + 1 => puN y z u k + puB y z u k

set_option maxRecDepth 100000 in
set_option maxHeartbeats 4000000 in
theorem c_L_put (l : Launch) (D : va_G) (sz : Nat) (kv kb kg : Nat) (xv xb xg : Row) (r : Nat) (u : Int32) (hr : r < 7) : MV l yL_put cL_put 7 0 0 D sz [.ref kv, .ref kb, .ref kg, .int (nI r), .int u] ([(kv, .inl (D.1 100, 7, .inl xv)), (kb, .inl (D.1 100, 7, .inl xb)), (kg, .inl (D.1 100, 7, .inl xg))]) ([(kv, .inl (D.1 100, 7, .inl (upd xv r (puN (xb r) (xg r) u 8)))), (kb, .inl (D.1 100, 7, .inl xb)), (kg, .inl (D.1 100, 7, .inl xg))]) := by
  refine r_enterV (by decide) (Nat.le_of_ble_eq_true rfl) ?_
  intro p e st m args below meth c ls A X hret hk hw hl
  have X : CX D p m c cL_put 7 st args RL A := X
  have hx := X.1.1
  have hb := X.1.2.1
  have hown := X.1.2.2.2.1
  have hts := X.1.2.2.2.2
  have hl : lv_has ls 7 [(0, .ref kv), (1, .ref kb), (2, .ref kg), (3, .int (nI r)), (4, .int u)] := hl
  refine lv_iconst (v := 0) hx hb dL_put_0 (by decide) ?_
  refine lv_istore (lv' := [(5, .int 0), (0, .ref kv), (1, .ref kb), (2, .ref kg), (3, .int (nI r)), (4, .int u)]) hx hb dL_put_1 hl (by decide) rfl (fun ls hl => ?_)
  refine lv_iconst (v := 0) hx hb dL_put_3 (by decide) ?_
  refine lv_istore (lv' := [(6, .int 0), (5, .int 0), (0, .ref kv), (1, .ref kb), (2, .ref kg), (3, .int (nI r)), (4, .int u)]) hx hb dL_put_4 hl (by decide) rfl (fun ls hl => ?_)
  have key6 : ∀ (n6 : Nat) (i : Nat) (x : Int32), (i ≤ 8) → (8 - i < n6) → (x = puN (xb r) (xg r) u i) → ∀ (H : Heap) (locs : List Loc) (ls : Array Slot), Wd D A st.heap H locs ([(kv, .inl (D.1 100, 7, .inl xv)), (kb, .inl (D.1 100, 7, .inl xb)), (kg, .inl (D.1 100, 7, .inl xg))]) → lv_has ls 7 [(0, .ref kv), (1, .ref kb), (2, .ref kg), (3, .int (nI r)), (4, .int u), (5, .int x), (6, .int (nI i))] → W p l e (rmOf 0 0 0 0) st m args below meth c H locs 0 0 (QV below args st D A ([(kv, .inl (D.1 100, 7, .inl (upd xv r (puN (xb r) (xg r) u 8)))), (kb, .inl (D.1 100, 7, .inl xb)), (kg, .inl (D.1 100, 7, .inl xg))])) (F0 m 6 ls []) := by
    intro n6
    induction n6 with
    | zero => intro i x hi hm hx0; omega
    | succ n6 ih6 =>
      intro i x hi hm hx0 H locs ls hw hl
      refine lv_iload hx hb dL_put_6 (lv_at hl 6 rfl) ?_
      refine lv_bipush (v := 8) hx hb dL_put_8 (by decide) ?_
      refine r_geN (tgt := 57) hx hb i 8 rfl rfl (by omega) (by omega) dL_put_10 (by decide) (fun c1 => ?_) (fun c1 => ?_)
      · skip
        refine lv_aload_n hx hb dL_put_57 rfl (lv_at hl 0 rfl) ?_
        refine lv_iload_n hx hb dL_put_58 rfl (lv_at hl 3 rfl) ?_
        refine lv_iload hx hb dL_put_59 (lv_at hl 5 rfl) ?_
        refine r_iast X hw (ws' := [(kv, .inl (D.1 100, 7, .inl (upd xv r x))), (kb, .inl (D.1 100, 7, .inl xb)), (kg, .inl (D.1 100, 7, .inl xg))]) r rfl (by omega) (by decide) (Foc.cell 0 rfl rfl (ce rfl (ce rfl rfl))) dL_put_61 (fun H locs hw => ?_)
        exact r_retV X hw hk hret (by rw [hx0, show i = 8 from by omega]) dL_put_62
      · skip
        refine lv_iload hx hb dL_put_13 (lv_at hl 5 rfl) ?_
        refine lv_aload_n hx hb dL_put_15 rfl (lv_at hl 1 rfl) ?_
        refine lv_iload_n hx hb dL_put_16 rfl (lv_at hl 3 rfl) ?_
        refine r_iald X hw (f := xb) r (m_at 1 rfl) rfl (by omega) (by decide) dL_put_17 ?_
        refine lv_iload hx hb dL_put_18 (lv_at hl 6 rfl) ?_
        refine lv_ishr hx hb dL_put_20 ?_
        refine lv_iconst (v := 1) hx hb dL_put_21 (by decide) ?_
        refine lv_iand hx hb dL_put_22 ?_
        refine lv_iconst (v := 1) hx hb dL_put_23 (by decide) ?_
        refine lv_icmp_ne (tgt := 38) hx hb dL_put_24 (by decide) (fun c2 => ?_) (fun c2 => ?_)
        · skip
          refine lv_iload hx hb dL_put_38 (lv_at hl 4 rfl) ?_
          refine lv_iload hx hb dL_put_40 (lv_at hl 6 rfl) ?_
          refine lv_ishr hx hb dL_put_42 ?_
          refine lv_iconst (v := 1) hx hb dL_put_43 (by decide) ?_
          refine lv_iand hx hb dL_put_44 ?_
          refine lv_iload hx hb dL_put_45 (lv_at hl 6 rfl) ?_
          refine lv_ishl hx hb dL_put_47 ?_
          refine lv_iadd hx hb dL_put_48 ?_
          refine lv_istore (lv' := [(5, .int (x + (((u >>> ((nI i) &&& 31)) &&& 1) <<< ((nI i) &&& 31)))), (0, .ref kv), (1, .ref kb), (2, .ref kg), (3, .int (nI r)), (4, .int u), (6, .int (nI i))]) hx hb dL_put_49 hl (by decide) rfl (fun ls hl => ?_)
          refine r_iincN (lv' := [(6, .int (nI (i + 1))), (5, .int (x + (((u >>> ((nI i) &&& 31)) &&& 1) <<< ((nI i) &&& 31)))), (0, .ref kv), (1, .ref kb), (2, .ref kg), (3, .int (nI r)), (4, .int u)]) hx hb i 1 rfl dL_put_51 hl (k := 6) rfl rfl (by decide) rfl (fun ls hl => ?_)
          refine lv_goto (tgt := 6) hx hb dL_put_54 (by decide) ?_
          exact ih6 (i + 1) (x + (((u >>> ((nI i) &&& 31)) &&& 1) <<< ((nI i) &&& 31))) (by omega) (by omega) (by show _ = puN (xb r) (xg r) u i + puB (xb r) (xg r) u i; unfold puB; rw [if_neg c2]; rw [hx0]) _ _ _ hw (lv_sub hl [2, 3, 4, 5, 6, 1, 0] rfl)
        · skip
          refine lv_aload_n hx hb dL_put_27 rfl (lv_at hl 2 rfl) ?_
          refine lv_iload_n hx hb dL_put_28 rfl (lv_at hl 3 rfl) ?_
          refine r_iald X hw (f := xg) r (m_at 2 rfl) rfl (by omega) (by decide) dL_put_29 ?_
          refine lv_iload hx hb dL_put_30 (lv_at hl 6 rfl) ?_
          refine lv_ishr hx hb dL_put_32 ?_
          refine lv_iconst (v := 1) hx hb dL_put_33 (by decide) ?_
          refine lv_iand hx hb dL_put_34 ?_
          refine lv_goto (tgt := 45) hx hb dL_put_35 (by decide) ?_
          refine lv_iload hx hb dL_put_45 (lv_at hl 6 rfl) ?_
          refine lv_ishl hx hb dL_put_47 ?_
          refine lv_iadd hx hb dL_put_48 ?_
          refine lv_istore (lv' := [(5, .int (x + ((((xg r) >>> ((nI i) &&& 31)) &&& 1) <<< ((nI i) &&& 31)))), (0, .ref kv), (1, .ref kb), (2, .ref kg), (3, .int (nI r)), (4, .int u), (6, .int (nI i))]) hx hb dL_put_49 hl (by decide) rfl (fun ls hl => ?_)
          refine r_iincN (lv' := [(6, .int (nI (i + 1))), (5, .int (x + ((((xg r) >>> ((nI i) &&& 31)) &&& 1) <<< ((nI i) &&& 31)))), (0, .ref kv), (1, .ref kb), (2, .ref kg), (3, .int (nI r)), (4, .int u)]) hx hb i 1 rfl dL_put_51 hl (k := 6) rfl rfl (by decide) rfl (fun ls hl => ?_)
          refine lv_goto (tgt := 6) hx hb dL_put_54 (by decide) ?_
          exact ih6 (i + 1) (x + ((((xg r) >>> ((nI i) &&& 31)) &&& 1) <<< ((nI i) &&& 31))) (by omega) (by omega) (by show _ = puN (xb r) (xg r) u i + puB (xb r) (xg r) u i; unfold puB; rw [if_pos c2]; rw [hx0]) _ _ _ hw (lv_sub hl [2, 3, 4, 5, 6, 1, 0] rfl)
  exact key6 9 0 0 (by omega) (by omega) rfl _ _ _ hw (lv_sub hl [2, 3, 4, 5, 6, 1, 0] rfl)

noncomputable def sp_L_next (xv : Row) (i : Nat) : Int32 := (if (sp_L_isCode (xv i) (sp_L_least i) (sp_L_most xv i)) = 0 then (if 9 ≤ ((xv i) - (xv i) / 16 * 16) then (((xv i) + 16) - ((xv i) - (xv i) / 16 * 16)) &&& 255 else (xv i) + 1) else (if (sp_L_number (xv i)) = (sp_L_most xv i) then sp_L_least i else (if 9 ≤ ((xv i) - (xv i) / 16 * 16) then (((xv i) + 16) - ((xv i) - (xv i) / 16 * 16)) &&& 255 else (xv i) + 1)))
set_option maxRecDepth 100000 in
set_option maxHeartbeats 4000000 in
theorem c_L_next (l : Launch) (D : va_G) (sz : Nat) (kv : Nat) (xv : Row) (i : Nat) (hi : i < 7) : MI l yL_next cL_next 3 (some .int) 4 85 D sz [.ref kv, .int (nI i)] ([(kv, .inl (D.1 100, 7, .inl xv))]) (sp_L_next xv i) ([(kv, .inl (D.1 100, 7, .inl xv))]) := by
  refine r_enterI (by decide) (Nat.le_of_ble_eq_true rfl) ?_
  intro p e st m args below meth c ls A X hret hk hw hl
  have X : CX D p m c cL_next 3 st args RL A := X
  have hx := X.1.1
  have hb := X.1.2.1
  have hown := X.1.2.2.2.1
  have hts := X.1.2.2.2.2
  have hl : lv_has ls 3 [(0, .ref kv), (1, .int (nI i))] := hl
  refine lv_aload_n hx hb dL_next_0 rfl (lv_at hl 0 rfl) ?_
  refine lv_iload_n hx hb dL_next_1 rfl (lv_at hl 1 rfl) ?_
  refine r_iald X hw (f := xv) i (m_at 0 rfl) rfl (by omega) (by decide) dL_next_2 ?_
  refine lv_iload_n hx hb dL_next_3 rfl (lv_at hl 1 rfl) ?_
  refine r_callS X hw (ws' := [(kv, .inl (D.1 100, 7, .inl xv))]) (As := [.int (nI i)]) (rest := [.int (xv i)]) lk_L_23 (c_L_least l D _ i (by omega)) Foc.nil rfl hl.1 (Nat.le_of_ble_eq_true rfl) ⟨Nat.le_of_ble_eq_true rfl, Nat.le_of_ble_eq_true rfl⟩ rfl dL_next_4 ⟨Nat.le_refl _, Nat.le_refl _⟩ (fun H locs hw => ?_)
  refine lv_aload_n hx hb dL_next_7 rfl (lv_at hl 0 rfl) ?_
  refine lv_iload_n hx hb dL_next_8 rfl (lv_at hl 1 rfl) ?_
  refine r_callS X hw (ws' := [(kv, .inl (D.1 100, 7, .inl xv))]) (As := [.ref kv, .int (nI i)]) (rest := [.int (sp_L_least i), .int (xv i)]) lk_L_26 (c_L_most l D _ kv xv i (by omega)) (Foc.pick [0] (r := []) rfl rfl) rfl hl.1 (Nat.le_of_ble_eq_true rfl) ⟨Nat.le_of_ble_eq_true rfl, Nat.le_of_ble_eq_true rfl⟩ rfl dL_next_9 ⟨Nat.le_refl _, Nat.le_refl _⟩ (fun H locs hw => ?_)
  refine r_callS X hw (ws' := [(kv, .inl (D.1 100, 7, .inl xv))]) (As := [.int (xv i), .int (sp_L_least i), .int (sp_L_most xv i)]) (rest := []) lk_L_15 (c_L_isCode l D _ (xv i) (sp_L_least i) (sp_L_most xv i)) Foc.nil rfl hl.1 (Nat.le_of_ble_eq_true rfl) ⟨Nat.le_of_ble_eq_true rfl, Nat.le_of_ble_eq_true rfl⟩ rfl dL_next_12 ⟨Nat.le_refl _, Nat.le_refl _⟩ (fun H locs hw => ?_)
  refine lv_if_eq (tgt := 37) hx hb dL_next_15 (by decide) (fun c1 => ?_) (fun c1 => ?_)
  · skip
    refine lv_aload_n hx hb dL_next_37 rfl (lv_at hl 0 rfl) ?_
    refine lv_iload_n hx hb dL_next_38 rfl (lv_at hl 1 rfl) ?_
    refine r_iald X hw (f := xv) i (m_at 0 rfl) rfl (by omega) (by decide) dL_next_39 ?_
    refine lv_bipush (v := 16) hx hb dL_next_40 (by decide) ?_
    refine lv_irem hx hb dL_next_42 (by decide) ?_
    refine lv_istore_n (lv' := [(2, .int ((xv i) - (xv i) / 16 * 16)), (0, .ref kv), (1, .int (nI i))]) hx hb dL_next_43 rfl hl (by decide) rfl (fun ls hl => ?_)
    refine lv_iload_n hx hb dL_next_44 rfl (lv_at hl 0 rfl) ?_
    refine lv_bipush (v := 9) hx hb dL_next_45 (by decide) ?_
    refine lv_icmp_ge (tgt := 58) hx hb dL_next_47 (by decide) (fun c2 => ?_) (fun c2 => ?_)
    · skip
      refine lv_aload_n hx hb dL_next_58 rfl (lv_at hl 1 rfl) ?_
      refine lv_iload_n hx hb dL_next_59 rfl (lv_at hl 2 rfl) ?_
      refine r_iald X hw (f := xv) i (m_at 0 rfl) rfl (by omega) (by decide) dL_next_60 ?_
      refine lv_bipush (v := 16) hx hb dL_next_61 (by decide) ?_
      refine lv_iadd hx hb dL_next_63 ?_
      refine lv_iload_n hx hb dL_next_64 rfl (lv_at hl 0 rfl) ?_
      refine lv_isub hx hb dL_next_65 ?_
      refine lv_sipush (v := 255) hx hb dL_next_66 (by decide) ?_
      refine lv_iand hx hb dL_next_69 ?_
      exact r_ret X hw hk hret rfl (by unfold sp_L_next; rw [if_pos c1]; rw [if_pos c2]) rfl dL_next_70
    · skip
      refine lv_aload_n hx hb dL_next_50 rfl (lv_at hl 1 rfl) ?_
      refine lv_iload_n hx hb dL_next_51 rfl (lv_at hl 2 rfl) ?_
      refine r_iald X hw (f := xv) i (m_at 0 rfl) rfl (by omega) (by decide) dL_next_52 ?_
      refine lv_iconst (v := 1) hx hb dL_next_53 (by decide) ?_
      refine lv_iadd hx hb dL_next_54 ?_
      refine lv_goto (tgt := 70) hx hb dL_next_55 (by decide) ?_
      exact r_ret X hw hk hret rfl (by unfold sp_L_next; rw [if_pos c1]; rw [if_neg c2]) rfl dL_next_70
  · skip
    refine lv_aload_n hx hb dL_next_18 rfl (lv_at hl 0 rfl) ?_
    refine lv_iload_n hx hb dL_next_19 rfl (lv_at hl 1 rfl) ?_
    refine r_iald X hw (f := xv) i (m_at 0 rfl) rfl (by omega) (by decide) dL_next_20 ?_
    refine r_callS X hw (ws' := [(kv, .inl (D.1 100, 7, .inl xv))]) (As := [.int (xv i)]) (rest := []) lk_L_9 (c_L_number l D _ (xv i)) Foc.nil rfl hl.1 (Nat.le_of_ble_eq_true rfl) ⟨Nat.le_of_ble_eq_true rfl, Nat.le_of_ble_eq_true rfl⟩ rfl dL_next_21 ⟨Nat.le_refl _, Nat.le_refl _⟩ (fun H locs hw => ?_)
    refine lv_aload_n hx hb dL_next_24 rfl (lv_at hl 0 rfl) ?_
    refine lv_iload_n hx hb dL_next_25 rfl (lv_at hl 1 rfl) ?_
    refine r_callS X hw (ws' := [(kv, .inl (D.1 100, 7, .inl xv))]) (As := [.ref kv, .int (nI i)]) (rest := [.int (sp_L_number (xv i))]) lk_L_26 (c_L_most l D _ kv xv i (by omega)) (Foc.pick [0] (r := []) rfl rfl) rfl hl.1 (Nat.le_of_ble_eq_true rfl) ⟨Nat.le_of_ble_eq_true rfl, Nat.le_of_ble_eq_true rfl⟩ rfl dL_next_26 ⟨Nat.le_refl _, Nat.le_refl _⟩ (fun H locs hw => ?_)
    refine lv_icmp_ne (tgt := 37) hx hb dL_next_29 (by decide) (fun c3 => ?_) (fun c3 => ?_)
    · skip
      refine lv_aload_n hx hb dL_next_37 rfl (lv_at hl 0 rfl) ?_
      refine lv_iload_n hx hb dL_next_38 rfl (lv_at hl 1 rfl) ?_
      refine r_iald X hw (f := xv) i (m_at 0 rfl) rfl (by omega) (by decide) dL_next_39 ?_
      refine lv_bipush (v := 16) hx hb dL_next_40 (by decide) ?_
      refine lv_irem hx hb dL_next_42 (by decide) ?_
      refine lv_istore_n (lv' := [(2, .int ((xv i) - (xv i) / 16 * 16)), (0, .ref kv), (1, .int (nI i))]) hx hb dL_next_43 rfl hl (by decide) rfl (fun ls hl => ?_)
      refine lv_iload_n hx hb dL_next_44 rfl (lv_at hl 0 rfl) ?_
      refine lv_bipush (v := 9) hx hb dL_next_45 (by decide) ?_
      refine lv_icmp_ge (tgt := 58) hx hb dL_next_47 (by decide) (fun c4 => ?_) (fun c4 => ?_)
      · skip
        refine lv_aload_n hx hb dL_next_58 rfl (lv_at hl 1 rfl) ?_
        refine lv_iload_n hx hb dL_next_59 rfl (lv_at hl 2 rfl) ?_
        refine r_iald X hw (f := xv) i (m_at 0 rfl) rfl (by omega) (by decide) dL_next_60 ?_
        refine lv_bipush (v := 16) hx hb dL_next_61 (by decide) ?_
        refine lv_iadd hx hb dL_next_63 ?_
        refine lv_iload_n hx hb dL_next_64 rfl (lv_at hl 0 rfl) ?_
        refine lv_isub hx hb dL_next_65 ?_
        refine lv_sipush (v := 255) hx hb dL_next_66 (by decide) ?_
        refine lv_iand hx hb dL_next_69 ?_
        exact r_ret X hw hk hret rfl (by unfold sp_L_next; rw [if_neg c1]; rw [if_neg c3]; rw [if_pos c4]) rfl dL_next_70
      · skip
        refine lv_aload_n hx hb dL_next_50 rfl (lv_at hl 1 rfl) ?_
        refine lv_iload_n hx hb dL_next_51 rfl (lv_at hl 2 rfl) ?_
        refine r_iald X hw (f := xv) i (m_at 0 rfl) rfl (by omega) (by decide) dL_next_52 ?_
        refine lv_iconst (v := 1) hx hb dL_next_53 (by decide) ?_
        refine lv_iadd hx hb dL_next_54 ?_
        refine lv_goto (tgt := 70) hx hb dL_next_55 (by decide) ?_
        exact r_ret X hw hk hret rfl (by unfold sp_L_next; rw [if_neg c1]; rw [if_neg c3]; rw [if_neg c4]) rfl dL_next_70
    · skip
      refine lv_iload_n hx hb dL_next_32 rfl (lv_at hl 1 rfl) ?_
      refine r_callS X hw (ws' := [(kv, .inl (D.1 100, 7, .inl xv))]) (As := [.int (nI i)]) (rest := []) lk_L_23 (c_L_least l D _ i (by omega)) Foc.nil rfl hl.1 (Nat.le_of_ble_eq_true rfl) ⟨Nat.le_of_ble_eq_true rfl, Nat.le_of_ble_eq_true rfl⟩ rfl dL_next_33 ⟨Nat.le_refl _, Nat.le_refl _⟩ (fun H locs hw => ?_)
      exact r_ret X hw hk hret rfl (by unfold sp_L_next; rw [if_neg c1]; rw [if_pos c3]) rfl dL_next_36

noncomputable def sp_L_step (xv xb xg xn : Row) (i : Nat) : Int32 × Row × Row := (if (sp_L_isCode (xv i) (sp_L_least i) (sp_L_most xv i)) = 0 then (0, upd xv i (puN (xb i) (xg i) (sp_L_next xv i) 8), upd xn i ((xn i) + 0)) else (if (sp_L_number (xv i)) = (sp_L_most xv i) then (1, upd xv i (puN (xb i) (xg i) (sp_L_next xv i) 8), upd xn i ((xn i) + 1)) else (0, upd xv i (puN (xb i) (xg i) (sp_L_next xv i) 8), upd xn i ((xn i) + 0))))
set_option maxRecDepth 100000 in
set_option maxHeartbeats 4000000 in
theorem c_L_step (l : Launch) (D : va_G) (sz : Nat) (kv kb kg kn : Nat) (xv xb xg xn : Row) (i : Nat) (hi : i < 7) : MI l yL_step cL_step 6 (some .boolean) 5 107 D sz [.ref kv, .ref kb, .ref kg, .ref kn, .int (nI i)] ([(kv, .inl (D.1 100, 7, .inl xv)), (kb, .inl (D.1 100, 7, .inl xb)), (kg, .inl (D.1 100, 7, .inl xg)), (kn, .inl (D.1 100, 7, .inl xn))]) ((sp_L_step xv xb xg xn i).1) ([(kv, .inl (D.1 100, 7, .inl ((sp_L_step xv xb xg xn i).2.1))), (kb, .inl (D.1 100, 7, .inl xb)), (kg, .inl (D.1 100, 7, .inl xg)), (kn, .inl (D.1 100, 7, .inl ((sp_L_step xv xb xg xn i).2.2)))]) := by
  refine r_enterI (by decide) (Nat.le_of_ble_eq_true rfl) ?_
  intro p e st m args below meth c ls A X hret hk hw hl
  have X : CX D p m c cL_step 6 st args RL A := X
  have hx := X.1.1
  have hb := X.1.2.1
  have hown := X.1.2.2.2.1
  have hts := X.1.2.2.2.2
  have hl : lv_has ls 6 [(0, .ref kv), (1, .ref kb), (2, .ref kg), (3, .ref kn), (4, .int (nI i))] := hl
  refine lv_aload_n hx hb dL_step_0 rfl (lv_at hl 0 rfl) ?_
  refine lv_iload hx hb dL_step_1 (lv_at hl 4 rfl) ?_
  refine r_iald X hw (f := xv) i (m_at 0 rfl) rfl (by omega) (by decide) dL_step_3 ?_
  refine lv_iload hx hb dL_step_4 (lv_at hl 4 rfl) ?_
  refine r_callS X hw (ws' := [(kv, .inl (D.1 100, 7, .inl xv)), (kb, .inl (D.1 100, 7, .inl xb)), (kg, .inl (D.1 100, 7, .inl xg)), (kn, .inl (D.1 100, 7, .inl xn))]) (As := [.int (nI i)]) (rest := [.int (xv i)]) lk_L_23 (c_L_least l D _ i (by omega)) Foc.nil rfl hl.1 (Nat.le_of_ble_eq_true rfl) ⟨Nat.le_of_ble_eq_true rfl, Nat.le_of_ble_eq_true rfl⟩ rfl dL_step_6 ⟨Nat.le_refl _, Nat.le_refl _⟩ (fun H locs hw => ?_)
  refine lv_aload_n hx hb dL_step_9 rfl (lv_at hl 0 rfl) ?_
  refine lv_iload hx hb dL_step_10 (lv_at hl 4 rfl) ?_
  refine r_callS X hw (ws' := [(kv, .inl (D.1 100, 7, .inl xv)), (kb, .inl (D.1 100, 7, .inl xb)), (kg, .inl (D.1 100, 7, .inl xg)), (kn, .inl (D.1 100, 7, .inl xn))]) (As := [.ref kv, .int (nI i)]) (rest := [.int (sp_L_least i), .int (xv i)]) lk_L_26 (c_L_most l D _ kv xv i (by omega)) (Foc.pick [0] (r := [(kb, .inl (D.1 100, 7, .inl xb)), (kg, .inl (D.1 100, 7, .inl xg)), (kn, .inl (D.1 100, 7, .inl xn))]) rfl rfl) rfl hl.1 (Nat.le_of_ble_eq_true rfl) ⟨Nat.le_of_ble_eq_true rfl, Nat.le_of_ble_eq_true rfl⟩ rfl dL_step_12 ⟨Nat.le_refl _, Nat.le_refl _⟩ (fun H locs hw => ?_)
  refine r_callS X hw (ws' := [(kv, .inl (D.1 100, 7, .inl xv)), (kb, .inl (D.1 100, 7, .inl xb)), (kg, .inl (D.1 100, 7, .inl xg)), (kn, .inl (D.1 100, 7, .inl xn))]) (As := [.int (xv i), .int (sp_L_least i), .int (sp_L_most xv i)]) (rest := []) lk_L_15 (c_L_isCode l D _ (xv i) (sp_L_least i) (sp_L_most xv i)) Foc.nil rfl hl.1 (Nat.le_of_ble_eq_true rfl) ⟨Nat.le_of_ble_eq_true rfl, Nat.le_of_ble_eq_true rfl⟩ rfl dL_step_15 ⟨Nat.le_refl _, Nat.le_refl _⟩ (fun H locs hw => ?_)
  refine lv_if_eq (tgt := 41) hx hb dL_step_18 (by decide) (fun c1 => ?_) (fun c1 => ?_)
  · skip
    refine lv_iconst (v := 0) hx hb dL_step_41 (by decide) ?_
    refine lv_istore (lv' := [(5, .int 0), (0, .ref kv), (1, .ref kb), (2, .ref kg), (3, .ref kn), (4, .int (nI i))]) hx hb dL_step_42 hl (by decide) rfl (fun ls hl => ?_)
    refine lv_aload_n hx hb dL_step_44 rfl (lv_at hl 1 rfl) ?_
    refine lv_aload_n hx hb dL_step_45 rfl (lv_at hl 2 rfl) ?_
    refine lv_aload_n hx hb dL_step_46 rfl (lv_at hl 3 rfl) ?_
    refine lv_iload hx hb dL_step_47 (lv_at hl 5 rfl) ?_
    refine lv_aload_n hx hb dL_step_49 rfl (lv_at hl 1 rfl) ?_
    refine lv_iload hx hb dL_step_50 (lv_at hl 5 rfl) ?_
    refine r_callS X hw (ws' := [(kv, .inl (D.1 100, 7, .inl xv)), (kb, .inl (D.1 100, 7, .inl xb)), (kg, .inl (D.1 100, 7, .inl xg)), (kn, .inl (D.1 100, 7, .inl xn))]) (As := [.ref kv, .int (nI i)]) (rest := [.int (nI i), .ref kg, .ref kb, .ref kv]) lk_L_30 (c_L_next l D _ kv xv i (by omega)) (Foc.pick [0] (r := [(kb, .inl (D.1 100, 7, .inl xb)), (kg, .inl (D.1 100, 7, .inl xg)), (kn, .inl (D.1 100, 7, .inl xn))]) rfl rfl) rfl hl.1 (Nat.le_of_ble_eq_true rfl) ⟨Nat.le_of_ble_eq_true rfl, Nat.le_of_ble_eq_true rfl⟩ rfl dL_step_52 ⟨Nat.le_refl _, Nat.le_refl _⟩ (fun H locs hw => ?_)
    refine r_callSv X hw (ws' := [(kv, .inl (D.1 100, 7, .inl (upd xv i (puN (xb i) (xg i) (sp_L_next xv i) 8)))), (kb, .inl (D.1 100, 7, .inl xb)), (kg, .inl (D.1 100, 7, .inl xg)), (kn, .inl (D.1 100, 7, .inl xn))]) (As := [.ref kv, .ref kb, .ref kg, .int (nI i), .int (sp_L_next xv i)]) (rest := []) lk_L_33 (c_L_put l D _ kv kb kg xv xb xg i (sp_L_next xv i) (by omega)) (Foc.pick [0, 0, 0] (r := [(kn, .inl (D.1 100, 7, .inl xn))]) rfl rfl) rfl hl.1 (Nat.le_of_ble_eq_true rfl) ⟨Nat.le_of_ble_eq_true rfl, Nat.le_of_ble_eq_true rfl⟩ rfl dL_step_55 ⟨Nat.le_refl _, Nat.le_refl _⟩ (fun H locs hw => ?_)
    refine lv_aload_n hx hb dL_step_58 rfl (lv_at hl 4 rfl) ?_
    refine lv_iload hx hb dL_step_59 (lv_at hl 5 rfl) ?_
    refine lv_dup2_11 hx hb dL_step_61 rfl rfl ?_
    refine r_iald X hw (f := xn) i (m_at 3 rfl) rfl (by omega) (by decide) dL_step_62 ?_
    refine lv_iload hx hb dL_step_63 (lv_at hl 0 rfl) ?_
    refine lv_if_eq (tgt := 72) hx hb dL_step_65 (by decide) (fun _ => ?_) (fun h => absurd (by decide) h)
    refine lv_iconst (v := 0) hx hb dL_step_72 (by decide) ?_
    refine lv_iadd hx hb dL_step_73 ?_
    refine r_iast X hw (ws' := [(kv, .inl (D.1 100, 7, .inl (upd xv i (puN (xb i) (xg i) (sp_L_next xv i) 8)))), (kb, .inl (D.1 100, 7, .inl xb)), (kg, .inl (D.1 100, 7, .inl xg)), (kn, .inl (D.1 100, 7, .inl (upd xn i ((xn i) + 0))))]) i rfl (by omega) (by decide) (Foc.cell 3 rfl rfl (ce rfl (ce rfl (ce rfl rfl)))) dL_step_74 (fun H locs hw => ?_)
    refine lv_iload hx hb dL_step_75 (lv_at hl 0 rfl) ?_
    exact r_ret X hw hk hret rfl (by unfold sp_L_step; rw [if_pos c1]) (by unfold sp_L_step; rw [if_pos c1]) dL_step_77
  · skip
    refine lv_aload_n hx hb dL_step_21 rfl (lv_at hl 0 rfl) ?_
    refine lv_iload hx hb dL_step_22 (lv_at hl 4 rfl) ?_
    refine r_iald X hw (f := xv) i (m_at 0 rfl) rfl (by omega) (by decide) dL_step_24 ?_
    refine r_callS X hw (ws' := [(kv, .inl (D.1 100, 7, .inl xv)), (kb, .inl (D.1 100, 7, .inl xb)), (kg, .inl (D.1 100, 7, .inl xg)), (kn, .inl (D.1 100, 7, .inl xn))]) (As := [.int (xv i)]) (rest := []) lk_L_9 (c_L_number l D _ (xv i)) Foc.nil rfl hl.1 (Nat.le_of_ble_eq_true rfl) ⟨Nat.le_of_ble_eq_true rfl, Nat.le_of_ble_eq_true rfl⟩ rfl dL_step_25 ⟨Nat.le_refl _, Nat.le_refl _⟩ (fun H locs hw => ?_)
    refine lv_aload_n hx hb dL_step_28 rfl (lv_at hl 0 rfl) ?_
    refine lv_iload hx hb dL_step_29 (lv_at hl 4 rfl) ?_
    refine r_callS X hw (ws' := [(kv, .inl (D.1 100, 7, .inl xv)), (kb, .inl (D.1 100, 7, .inl xb)), (kg, .inl (D.1 100, 7, .inl xg)), (kn, .inl (D.1 100, 7, .inl xn))]) (As := [.ref kv, .int (nI i)]) (rest := [.int (sp_L_number (xv i))]) lk_L_26 (c_L_most l D _ kv xv i (by omega)) (Foc.pick [0] (r := [(kb, .inl (D.1 100, 7, .inl xb)), (kg, .inl (D.1 100, 7, .inl xg)), (kn, .inl (D.1 100, 7, .inl xn))]) rfl rfl) rfl hl.1 (Nat.le_of_ble_eq_true rfl) ⟨Nat.le_of_ble_eq_true rfl, Nat.le_of_ble_eq_true rfl⟩ rfl dL_step_31 ⟨Nat.le_refl _, Nat.le_refl _⟩ (fun H locs hw => ?_)
    refine lv_icmp_ne (tgt := 41) hx hb dL_step_34 (by decide) (fun c2 => ?_) (fun c2 => ?_)
    · skip
      refine lv_iconst (v := 0) hx hb dL_step_41 (by decide) ?_
      refine lv_istore (lv' := [(5, .int 0), (0, .ref kv), (1, .ref kb), (2, .ref kg), (3, .ref kn), (4, .int (nI i))]) hx hb dL_step_42 hl (by decide) rfl (fun ls hl => ?_)
      refine lv_aload_n hx hb dL_step_44 rfl (lv_at hl 1 rfl) ?_
      refine lv_aload_n hx hb dL_step_45 rfl (lv_at hl 2 rfl) ?_
      refine lv_aload_n hx hb dL_step_46 rfl (lv_at hl 3 rfl) ?_
      refine lv_iload hx hb dL_step_47 (lv_at hl 5 rfl) ?_
      refine lv_aload_n hx hb dL_step_49 rfl (lv_at hl 1 rfl) ?_
      refine lv_iload hx hb dL_step_50 (lv_at hl 5 rfl) ?_
      refine r_callS X hw (ws' := [(kv, .inl (D.1 100, 7, .inl xv)), (kb, .inl (D.1 100, 7, .inl xb)), (kg, .inl (D.1 100, 7, .inl xg)), (kn, .inl (D.1 100, 7, .inl xn))]) (As := [.ref kv, .int (nI i)]) (rest := [.int (nI i), .ref kg, .ref kb, .ref kv]) lk_L_30 (c_L_next l D _ kv xv i (by omega)) (Foc.pick [0] (r := [(kb, .inl (D.1 100, 7, .inl xb)), (kg, .inl (D.1 100, 7, .inl xg)), (kn, .inl (D.1 100, 7, .inl xn))]) rfl rfl) rfl hl.1 (Nat.le_of_ble_eq_true rfl) ⟨Nat.le_of_ble_eq_true rfl, Nat.le_of_ble_eq_true rfl⟩ rfl dL_step_52 ⟨Nat.le_refl _, Nat.le_refl _⟩ (fun H locs hw => ?_)
      refine r_callSv X hw (ws' := [(kv, .inl (D.1 100, 7, .inl (upd xv i (puN (xb i) (xg i) (sp_L_next xv i) 8)))), (kb, .inl (D.1 100, 7, .inl xb)), (kg, .inl (D.1 100, 7, .inl xg)), (kn, .inl (D.1 100, 7, .inl xn))]) (As := [.ref kv, .ref kb, .ref kg, .int (nI i), .int (sp_L_next xv i)]) (rest := []) lk_L_33 (c_L_put l D _ kv kb kg xv xb xg i (sp_L_next xv i) (by omega)) (Foc.pick [0, 0, 0] (r := [(kn, .inl (D.1 100, 7, .inl xn))]) rfl rfl) rfl hl.1 (Nat.le_of_ble_eq_true rfl) ⟨Nat.le_of_ble_eq_true rfl, Nat.le_of_ble_eq_true rfl⟩ rfl dL_step_55 ⟨Nat.le_refl _, Nat.le_refl _⟩ (fun H locs hw => ?_)
      refine lv_aload_n hx hb dL_step_58 rfl (lv_at hl 4 rfl) ?_
      refine lv_iload hx hb dL_step_59 (lv_at hl 5 rfl) ?_
      refine lv_dup2_11 hx hb dL_step_61 rfl rfl ?_
      refine r_iald X hw (f := xn) i (m_at 3 rfl) rfl (by omega) (by decide) dL_step_62 ?_
      refine lv_iload hx hb dL_step_63 (lv_at hl 0 rfl) ?_
      refine lv_if_eq (tgt := 72) hx hb dL_step_65 (by decide) (fun _ => ?_) (fun h => absurd (by decide) h)
      refine lv_iconst (v := 0) hx hb dL_step_72 (by decide) ?_
      refine lv_iadd hx hb dL_step_73 ?_
      refine r_iast X hw (ws' := [(kv, .inl (D.1 100, 7, .inl (upd xv i (puN (xb i) (xg i) (sp_L_next xv i) 8)))), (kb, .inl (D.1 100, 7, .inl xb)), (kg, .inl (D.1 100, 7, .inl xg)), (kn, .inl (D.1 100, 7, .inl (upd xn i ((xn i) + 0))))]) i rfl (by omega) (by decide) (Foc.cell 3 rfl rfl (ce rfl (ce rfl (ce rfl rfl)))) dL_step_74 (fun H locs hw => ?_)
      refine lv_iload hx hb dL_step_75 (lv_at hl 0 rfl) ?_
      exact r_ret X hw hk hret rfl (by unfold sp_L_step; rw [if_neg c1]; rw [if_neg c2]) (by unfold sp_L_step; rw [if_neg c1]; rw [if_neg c2]) dL_step_77
    · skip
      refine lv_iconst (v := 1) hx hb dL_step_37 (by decide) ?_
      refine lv_goto (tgt := 42) hx hb dL_step_38 (by decide) ?_
      refine lv_istore (lv' := [(5, .int 1), (0, .ref kv), (1, .ref kb), (2, .ref kg), (3, .ref kn), (4, .int (nI i))]) hx hb dL_step_42 hl (by decide) rfl (fun ls hl => ?_)
      refine lv_aload_n hx hb dL_step_44 rfl (lv_at hl 1 rfl) ?_
      refine lv_aload_n hx hb dL_step_45 rfl (lv_at hl 2 rfl) ?_
      refine lv_aload_n hx hb dL_step_46 rfl (lv_at hl 3 rfl) ?_
      refine lv_iload hx hb dL_step_47 (lv_at hl 5 rfl) ?_
      refine lv_aload_n hx hb dL_step_49 rfl (lv_at hl 1 rfl) ?_
      refine lv_iload hx hb dL_step_50 (lv_at hl 5 rfl) ?_
      refine r_callS X hw (ws' := [(kv, .inl (D.1 100, 7, .inl xv)), (kb, .inl (D.1 100, 7, .inl xb)), (kg, .inl (D.1 100, 7, .inl xg)), (kn, .inl (D.1 100, 7, .inl xn))]) (As := [.ref kv, .int (nI i)]) (rest := [.int (nI i), .ref kg, .ref kb, .ref kv]) lk_L_30 (c_L_next l D _ kv xv i (by omega)) (Foc.pick [0] (r := [(kb, .inl (D.1 100, 7, .inl xb)), (kg, .inl (D.1 100, 7, .inl xg)), (kn, .inl (D.1 100, 7, .inl xn))]) rfl rfl) rfl hl.1 (Nat.le_of_ble_eq_true rfl) ⟨Nat.le_of_ble_eq_true rfl, Nat.le_of_ble_eq_true rfl⟩ rfl dL_step_52 ⟨Nat.le_refl _, Nat.le_refl _⟩ (fun H locs hw => ?_)
      refine r_callSv X hw (ws' := [(kv, .inl (D.1 100, 7, .inl (upd xv i (puN (xb i) (xg i) (sp_L_next xv i) 8)))), (kb, .inl (D.1 100, 7, .inl xb)), (kg, .inl (D.1 100, 7, .inl xg)), (kn, .inl (D.1 100, 7, .inl xn))]) (As := [.ref kv, .ref kb, .ref kg, .int (nI i), .int (sp_L_next xv i)]) (rest := []) lk_L_33 (c_L_put l D _ kv kb kg xv xb xg i (sp_L_next xv i) (by omega)) (Foc.pick [0, 0, 0] (r := [(kn, .inl (D.1 100, 7, .inl xn))]) rfl rfl) rfl hl.1 (Nat.le_of_ble_eq_true rfl) ⟨Nat.le_of_ble_eq_true rfl, Nat.le_of_ble_eq_true rfl⟩ rfl dL_step_55 ⟨Nat.le_refl _, Nat.le_refl _⟩ (fun H locs hw => ?_)
      refine lv_aload_n hx hb dL_step_58 rfl (lv_at hl 4 rfl) ?_
      refine lv_iload hx hb dL_step_59 (lv_at hl 5 rfl) ?_
      refine lv_dup2_11 hx hb dL_step_61 rfl rfl ?_
      refine r_iald X hw (f := xn) i (m_at 3 rfl) rfl (by omega) (by decide) dL_step_62 ?_
      refine lv_iload hx hb dL_step_63 (lv_at hl 0 rfl) ?_
      refine lv_if_eq (tgt := 72) hx hb dL_step_65 (by decide) (fun h => absurd h (by decide)) (fun _ => ?_)
      refine lv_iconst (v := 1) hx hb dL_step_68 (by decide) ?_
      refine lv_goto (tgt := 73) hx hb dL_step_69 (by decide) ?_
      refine lv_iadd hx hb dL_step_73 ?_
      refine r_iast X hw (ws' := [(kv, .inl (D.1 100, 7, .inl (upd xv i (puN (xb i) (xg i) (sp_L_next xv i) 8)))), (kb, .inl (D.1 100, 7, .inl xb)), (kg, .inl (D.1 100, 7, .inl xg)), (kn, .inl (D.1 100, 7, .inl (upd xn i ((xn i) + 1))))]) i rfl (by omega) (by decide) (Foc.cell 3 rfl rfl (ce rfl (ce rfl (ce rfl rfl)))) dL_step_74 (fun H locs hw => ?_)
      refine lv_iload hx hb dL_step_75 (lv_at hl 0 rfl) ?_
      exact r_ret X hw hk hret rfl (by unfold sp_L_step; rw [if_neg c1]; rw [if_pos c2]) (by unfold sp_L_step; rw [if_neg c1]; rw [if_pos c2]) dL_step_77

/-- a step on both rows at once -/
noncomputable def stL (xb xg : Row) (y : Row × Row) (i : Nat) : Int32 × Row × Row := sp_L_step y.1 xb xg y.2 i

theorem c_L_stepY (l : Launch) (D : va_G) (sz : Nat) (kv kb kg kn : Nat) (Y : Row × Row) (xb xg : Row) (i : Nat) (hi : i < 7) : MI l yL_step cL_step 6 (some .boolean) 5 107 D sz [.ref kv, .ref kb, .ref kg, .ref kn, .int (nI i)] [(kv, .inl (D.1 100, 7, .inl Y.1)), (kb, .inl (D.1 100, 7, .inl xb)), (kg, .inl (D.1 100, 7, .inl xg)), (kn, .inl (D.1 100, 7, .inl Y.2))] ((stL xb xg Y i).1) [(kv, .inl (D.1 100, 7, .inl ((stL xb xg Y i).2.1))), (kb, .inl (D.1 100, 7, .inl xb)), (kg, .inl (D.1 100, 7, .inl xg)), (kn, .inl (D.1 100, 7, .inl ((stL xb xg Y i).2.2)))] := c_L_step l D sz kv kb kg kn Y.1 xb xg Y.2 i hi

/-- an alarm that matches: each register masked or alike -/
noncomputable def sp_L_matches (xv xa : Row) (k : Nat) : Int32 := bI (∀ r, r < 5 → ¬ ((xa (9 * k + 5) >>> ((nI r) &&& 31)) &&& 1 = 0 ∧ ¬ xa (9 * k + r) = xv r))
theorem bo_L_matches (xv xa : Row) (k : Nat) : sp_L_matches xv xa k = 0 ∨ sp_L_matches xv xa k = 1 := bI_b _
set_option maxRecDepth 100000 in
set_option maxHeartbeats 4000000 in
theorem c_L_matches (l : Launch) (D : va_G) (sz : Nat) (kv ka : Nat) (xv xa : Row) (k : Nat) (hk3 : k < 3) : MI l yL_matches cL_matches 4 (some .boolean) 0 0 D sz [.ref kv, .ref ka, .int (nI k)] ([(kv, .inl (D.1 100, 7, .inl xv)), (ka, .inl (D.1 100, 27, .inl xa))]) (sp_L_matches xv xa k) ([(kv, .inl (D.1 100, 7, .inl xv)), (ka, .inl (D.1 100, 27, .inl xa))]) := by
  refine r_enterI (by decide) (Nat.le_of_ble_eq_true rfl) ?_
  intro p e st m args below meth c ls A X hret hk hw hl
  have X : CX D p m c cL_matches 4 st args RL A := X
  have hx := X.1.1
  have hb := X.1.2.1
  have hown := X.1.2.2.2.1
  have hts := X.1.2.2.2.2
  have hl : lv_has ls 4 [(0, .ref kv), (1, .ref ka), (2, .int (nI k))] := hl
  refine lv_iconst (v := 0) hx hb dL_matches_0 (by decide) ?_
  refine lv_istore_n (lv' := [(3, .int 0), (0, .ref kv), (1, .ref ka), (2, .int (nI k))]) hx hb dL_matches_1 rfl hl (by decide) rfl (fun ls hl => ?_)
  have key2 : ∀ (n2 : Nat) (i : Nat), (i ≤ 5) → (5 - i < n2) → (∀ r, r < i → ¬ ((xa (9 * k + 5) >>> ((nI r) &&& 31)) &&& 1 = 0 ∧ ¬ xa (9 * k + r) = xv r)) → ∀ (H : Heap) (locs : List Loc) (ls : Array Slot), Wd D A st.heap H locs ([(kv, .inl (D.1 100, 7, .inl xv)), (ka, .inl (D.1 100, 27, .inl xa))]) → lv_has ls 4 [(0, .ref kv), (1, .ref ka), (2, .int (nI k)), (3, .int (nI i))] → W p l e (rmOf 0 0 0 0) st m args below meth c H locs 0 0 (QI below args st D A (sp_L_matches xv xa k) ([(kv, .inl (D.1 100, 7, .inl xv)), (ka, .inl (D.1 100, 27, .inl xa))])) (F0 m 2 ls []) := by
    intro n2
    induction n2 with
    | zero => intro i hi hm hB; omega
    | succ n2 ih2 =>
      intro i hi hm hB H locs ls hw hl
      refine lv_iload_n hx hb dL_matches_2 rfl (lv_at hl 3 rfl) ?_
      refine lv_iconst (v := 5) hx hb dL_matches_3 (by decide) ?_
      refine r_geN (tgt := 44) hx hb i 5 rfl rfl (by omega) (by omega) dL_matches_4 (by decide) (fun c1 => ?_) (fun c1 => ?_)
      · skip
        refine lv_iconst (v := 1) hx hb dL_matches_44 (by decide) ?_
        exact r_ret X hw hk hret rfl (bI_t (fun r hr => hB r (by omega))).symm rfl dL_matches_45
      · skip
        refine lv_aload_n hx hb dL_matches_7 rfl (lv_at hl 1 rfl) ?_
        refine lv_bipush (v := 9) hx hb dL_matches_8 (by decide) ?_
        refine lv_iload_n hx hb dL_matches_10 rfl (lv_at hl 2 rfl) ?_
        refine r_mulN hx hb 9 k rfl rfl dL_matches_11 ?_
        refine lv_iconst (v := 5) hx hb dL_matches_12 (by decide) ?_
        refine r_addN hx hb (9 * k) 5 rfl rfl dL_matches_13 ?_
        refine r_iald X hw (f := xa) (9 * k + 5) (m_at 1 rfl) rfl (by omega) (by decide) dL_matches_14 ?_
        refine lv_iload_n hx hb dL_matches_15 rfl (lv_at hl 3 rfl) ?_
        refine lv_ishr hx hb dL_matches_16 ?_
        refine lv_iconst (v := 1) hx hb dL_matches_17 (by decide) ?_
        refine lv_iand hx hb dL_matches_18 ?_
        refine lv_if_ne (tgt := 38) hx hb dL_matches_19 (by decide) (fun c2 => ?_) (fun c2 => ?_)
        · skip
          refine r_iincN (lv' := [(3, .int (nI (i + 1))), (0, .ref kv), (1, .ref ka), (2, .int (nI k))]) hx hb i 1 rfl dL_matches_38 hl (k := 3) rfl rfl (by decide) rfl (fun ls hl => ?_)
          refine lv_goto (tgt := 2) hx hb dL_matches_41 (by decide) ?_
          exact ih2 (i + 1) (by omega) (by omega) (fun r hr => by rcases Nat.lt_succ_iff_lt_or_eq.mp hr with h | h; exact hB r h; subst h; exact (fun w => c2 w.1)) _ _ _ hw (lv_sub hl [1, 2, 3, 0] rfl)
        · skip
          refine lv_aload_n hx hb dL_matches_22 rfl (lv_at hl 1 rfl) ?_
          refine lv_bipush (v := 9) hx hb dL_matches_23 (by decide) ?_
          refine lv_iload_n hx hb dL_matches_25 rfl (lv_at hl 2 rfl) ?_
          refine r_mulN hx hb 9 k rfl rfl dL_matches_26 ?_
          refine lv_iload_n hx hb dL_matches_27 rfl (lv_at hl 3 rfl) ?_
          refine r_addN hx hb (9 * k) i rfl rfl dL_matches_28 ?_
          refine r_iald X hw (f := xa) (9 * k + i) (m_at 1 rfl) rfl (by omega) (by decide) dL_matches_29 ?_
          refine lv_aload_n hx hb dL_matches_30 rfl (lv_at hl 0 rfl) ?_
          refine lv_iload_n hx hb dL_matches_31 rfl (lv_at hl 3 rfl) ?_
          refine r_iald X hw (f := xv) i (m_at 0 rfl) rfl (by omega) (by decide) dL_matches_32 ?_
          refine lv_icmp_eq (tgt := 38) hx hb dL_matches_33 (by decide) (fun c3 => ?_) (fun c3 => ?_)
          · skip
            refine r_iincN (lv' := [(3, .int (nI (i + 1))), (0, .ref kv), (1, .ref ka), (2, .int (nI k))]) hx hb i 1 rfl dL_matches_38 hl (k := 3) rfl rfl (by decide) rfl (fun ls hl => ?_)
            refine lv_goto (tgt := 2) hx hb dL_matches_41 (by decide) ?_
            exact ih2 (i + 1) (by omega) (by omega) (fun r hr => by rcases Nat.lt_succ_iff_lt_or_eq.mp hr with h | h; exact hB r h; subst h; exact (fun w => w.2 c3)) _ _ _ hw (lv_sub hl [1, 2, 3, 0] rfl)
          · skip
            refine lv_iconst (v := 0) hx hb dL_matches_36 (by decide) ?_
            exact r_ret X hw hk hret rfl (bI_f (fun w => w i (by omega) ⟨c2, c3⟩)).symm rfl dL_matches_37
  exact key2 6 0 (by omega) (by omega) (fun r hr => absurd hr (Nat.not_lt_zero r)) _ _ _ hw (lv_sub hl [1, 2, 3, 0] rfl)

/-- the bits of a set -/
def btN (y : Int32) : Nat → Int32
  | 0 => 0
  | k + 1 => btN y k + ((y >>> ((nI k) &&& 31)) &&& 1)

set_option maxRecDepth 100000 in
set_option maxHeartbeats 4000000 in
theorem c_L_bits (l : Launch) (D : va_G) (sz : Nat) (y : Int32) : MI l yL_bits cL_bits 3 (some .int) 0 0 D sz [.int y] [] (btN y 8) ([]) := by
  refine r_enterI (by decide) (Nat.le_of_ble_eq_true rfl) ?_
  intro p e st m args below meth c ls A X hret hk hw hl
  have X : CX D p m c cL_bits 3 st args RL A := X
  have hx := X.1.1
  have hb := X.1.2.1
  have hown := X.1.2.2.2.1
  have hts := X.1.2.2.2.2
  have hl : lv_has ls 3 [(0, .int y)] := hl
  refine lv_iconst (v := 0) hx hb dL_bits_0 (by decide) ?_
  refine lv_istore_n (lv' := [(1, .int 0), (0, .int y)]) hx hb dL_bits_1 rfl hl (by decide) rfl (fun ls hl => ?_)
  refine lv_iconst (v := 0) hx hb dL_bits_2 (by decide) ?_
  refine lv_istore_n (lv' := [(2, .int 0), (1, .int 0), (0, .int y)]) hx hb dL_bits_3 rfl hl (by decide) rfl (fun ls hl => ?_)
  have key4 : ∀ (n4 : Nat) (i : Nat) (x : Int32), (i ≤ 8) → (8 - i < n4) → (x = btN y i) → ∀ (H : Heap) (locs : List Loc) (ls : Array Slot), Wd D A st.heap H locs ([]) → lv_has ls 3 [(0, .int y), (1, .int x), (2, .int (nI i))] → W p l e (rmOf 0 0 0 0) st m args below meth c H locs 0 0 (QI below args st D A (btN y 8) ([])) (F0 m 4 ls []) := by
    intro n4
    induction n4 with
    | zero => intro i x hi hm hx0; omega
    | succ n4 ih4 =>
      intro i x hi hm hx0 H locs ls hw hl
      refine lv_iload_n hx hb dL_bits_4 rfl (lv_at hl 2 rfl) ?_
      refine lv_bipush (v := 8) hx hb dL_bits_5 (by decide) ?_
      refine r_geN (tgt := 24) hx hb i 8 rfl rfl (by omega) (by omega) dL_bits_7 (by decide) (fun c1 => ?_) (fun c1 => ?_)
      · skip
        refine lv_iload_n hx hb dL_bits_24 rfl (lv_at hl 1 rfl) ?_
        exact r_ret X hw hk hret rfl (by rw [hx0, show i = 8 from by omega]) rfl dL_bits_25
      · skip
        refine lv_iload_n hx hb dL_bits_10 rfl (lv_at hl 1 rfl) ?_
        refine lv_iload_n hx hb dL_bits_11 rfl (lv_at hl 0 rfl) ?_
        refine lv_iload_n hx hb dL_bits_12 rfl (lv_at hl 2 rfl) ?_
        refine lv_ishr hx hb dL_bits_13 ?_
        refine lv_iconst (v := 1) hx hb dL_bits_14 (by decide) ?_
        refine lv_iand hx hb dL_bits_15 ?_
        refine lv_iadd hx hb dL_bits_16 ?_
        refine lv_istore_n (lv' := [(1, .int (x + ((y >>> ((nI i) &&& 31)) &&& 1))), (0, .int y), (2, .int (nI i))]) hx hb dL_bits_17 rfl hl (by decide) rfl (fun ls hl => ?_)
        refine r_iincN (lv' := [(2, .int (nI (i + 1))), (1, .int (x + ((y >>> ((nI i) &&& 31)) &&& 1))), (0, .int y)]) hx hb i 1 rfl dL_bits_18 hl (k := 2) rfl rfl (by decide) rfl (fun ls hl => ?_)
        refine lv_goto (tgt := 4) hx hb dL_bits_21 (by decide) ?_
        exact ih4 (i + 1) (x + ((y >>> ((nI i) &&& 31)) &&& 1)) (by omega) (by omega) (by show _ = btN y i + _; rw [hx0]) _ _ _ hw (lv_sub hl [2, 1, 0] rfl)
  exact key4 9 0 0 (by omega) (by omega) rfl _ _ _ hw (lv_sub hl [2, 1, 0] rfl)

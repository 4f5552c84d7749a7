set_option maxHeartbeats 4000000 in
set_option maxRecDepth 100000 in
theorem c_Mo_hatch (l : Launch) (hk x y : Int32)  : Met l y_Mo_hatch (.code y_Mo_hatch prog_9_method_7_code 9 (some .boolean) :: BIG) ({ frames := 0, cells := 0, slots := 0, locals := 0 }) (va_Pc [.int hk, .int x, .int y] (fun _ => True)) (hp_QR (some (.int (q_is (q_hm hk (q_r16 x) (q_r16 y)))))) 0 0 (fun _ => False) := by
  refine hp_enter (by decide) (Nat.le_of_ble_eq_true rfl) ?_
  intro p e s m below meth c ls S hr hlk hin hI hl
  have hl : lv_has ls 9 [(0, .int hk), (1, .int x), (2, .int y)] := hl
  refine lv_iload_n S.1 S.2.1 d_Mo_hatch_0 rfl (lv_at hl 1 rfl) ?_
  refine lv_bipush (v := 16) S.1 S.2.1 d_Mo_hatch_1 (by decide) ?_
  refine lv_irem S.1 S.2.1 d_Mo_hatch_3 (by decide) ?_
  refine lv_topi (fun u eu => ?_)
  refine lv_istore_n (lv' := [(3, .int u), (0, .int hk), (1, .int x), (2, .int y)]) S.1 S.2.1 d_Mo_hatch_4 rfl hl (by decide) rfl (fun ls hl => ?_)
  refine lv_iload_n S.1 S.2.1 d_Mo_hatch_5 rfl (lv_at hl 3 rfl) ?_
  refine lv_bipush (v := 16) S.1 S.2.1 d_Mo_hatch_6 (by decide) ?_
  refine lv_irem S.1 S.2.1 d_Mo_hatch_8 (by decide) ?_
  refine lv_topi (fun vv evv => ?_)
  refine lv_istore (lv' := [(4, .int vv), (3, .int u), (0, .int hk), (1, .int x), (2, .int y)]) S.1 S.2.1 d_Mo_hatch_9 hl (by decide) rfl (fun ls hl => ?_)
  refine hp_cut (fun v => v = q_is (q_ly vv)) 30 [] (fun J => ?_) (fun a1 e_a1 => ?_)
  · refine lv_iload S.1 S.2.1 d_Mo_hatch_11 (lv_at hl 0 rfl) ?_
    refine lv_bipush (v := 7) S.1 S.2.1 d_Mo_hatch_13 (by decide) ?_
    refine lv_icmp_eq (tgt := 25) S.1 S.2.1 d_Mo_hatch_15 (by decide) (fun c_15 => ?_) (fun c_15 => ?_)
    · refine lv_iconst (v := 1) S.1 S.2.1 d_Mo_hatch_25 (by decide) ?_
      refine lv_goto (tgt := 30) S.1 S.2.1 d_Mo_hatch_26 (by decide) ?_
      exact J _ (q_is_t (Or.inl c_15))
    · refine lv_iload S.1 S.2.1 d_Mo_hatch_18 (lv_at hl 0 rfl) ?_
      refine lv_bipush (v := 8) S.1 S.2.1 d_Mo_hatch_20 (by decide) ?_
      refine lv_icmp_ne (tgt := 29) S.1 S.2.1 d_Mo_hatch_22 (by decide) (fun c_22 => ?_) (fun c_22 => ?_)
      · refine lv_iconst (v := 0) S.1 S.2.1 d_Mo_hatch_29 (by decide) ?_
        exact J _ (q_is_f (fun q => q.elim c_15 c_22))
      · refine lv_iconst (v := 1) S.1 S.2.1 d_Mo_hatch_25 (by decide) ?_
        refine lv_goto (tgt := 30) S.1 S.2.1 d_Mo_hatch_26 (by decide) ?_
        exact J _ (q_is_t (Or.inr c_22))
  · refine lv_istore (lv' := [(5, .int a1), (4, .int vv), (3, .int u), (0, .int hk), (1, .int x), (2, .int y)]) S.1 S.2.1 d_Mo_hatch_30 hl (by decide) rfl (fun ls hl => ?_)
    refine hp_cut (fun v => v = q_is (q_ly u)) 49 [] (fun J => ?_) (fun a2 e_a2 => ?_)
    · refine lv_iload_n S.1 S.2.1 d_Mo_hatch_32 rfl (lv_at hl 2 rfl) ?_
      refine lv_bipush (v := 7) S.1 S.2.1 d_Mo_hatch_33 (by decide) ?_
      refine lv_icmp_eq (tgt := 44) S.1 S.2.1 d_Mo_hatch_35 (by decide) (fun c_35 => ?_) (fun c_35 => ?_)
      · refine lv_iconst (v := 1) S.1 S.2.1 d_Mo_hatch_44 (by decide) ?_
        refine lv_goto (tgt := 49) S.1 S.2.1 d_Mo_hatch_45 (by decide) ?_
        exact J _ (q_is_t (Or.inl c_35))
      · refine lv_iload_n S.1 S.2.1 d_Mo_hatch_38 rfl (lv_at hl 2 rfl) ?_
        refine lv_bipush (v := 8) S.1 S.2.1 d_Mo_hatch_39 (by decide) ?_
        refine lv_icmp_ne (tgt := 48) S.1 S.2.1 d_Mo_hatch_41 (by decide) (fun c_41 => ?_) (fun c_41 => ?_)
        · refine lv_iconst (v := 0) S.1 S.2.1 d_Mo_hatch_48 (by decide) ?_
          exact J _ (q_is_f (fun q => q.elim c_35 c_41))
        · refine lv_iconst (v := 1) S.1 S.2.1 d_Mo_hatch_44 (by decide) ?_
          refine lv_goto (tgt := 49) S.1 S.2.1 d_Mo_hatch_45 (by decide) ?_
          exact J _ (q_is_t (Or.inr c_41))
    · refine lv_istore (lv' := [(6, .int a2), (5, .int a1), (4, .int vv), (3, .int u), (0, .int hk), (1, .int x), (2, .int y)]) S.1 S.2.1 d_Mo_hatch_49 hl (by decide) rfl (fun ls hl => ?_)
      refine hp_cut (fun v => v = q_is (q_ri u vv)) 67 [] (fun J => ?_) (fun a3 e_a3 => ?_)
      · refine lv_iload_n S.1 S.2.1 d_Mo_hatch_51 rfl (lv_at hl 3 rfl) ?_
        refine lv_iload S.1 S.2.1 d_Mo_hatch_52 (lv_at hl 2 rfl) ?_
        refine lv_iadd S.1 S.2.1 d_Mo_hatch_54 ?_
        refine lv_bipush (v := 16) S.1 S.2.1 d_Mo_hatch_55 (by decide) ?_
        refine lv_irem S.1 S.2.1 d_Mo_hatch_57 (by decide) ?_
        refine lv_iconst (v := 2) S.1 S.2.1 d_Mo_hatch_58 (by decide) ?_
        refine lv_icmp_ge (tgt := 66) S.1 S.2.1 d_Mo_hatch_59 (by decide) (fun c_59 => ?_) (fun c_59 => ?_)
        · refine lv_iconst (v := 0) S.1 S.2.1 d_Mo_hatch_66 (by decide) ?_
          exact J _ (q_is_f (by simp only [z_lt, z_le] at c_59 ⊢; exact Int.not_lt.mpr c_59))
        · refine lv_iconst (v := 1) S.1 S.2.1 d_Mo_hatch_62 (by decide) ?_
          refine lv_goto (tgt := 67) S.1 S.2.1 d_Mo_hatch_63 (by decide) ?_
          exact J _ (q_is_t (by simp only [z_lt, z_le] at c_59 ⊢; exact Int.not_le.mp c_59))
      · refine lv_istore (lv' := [(7, .int a3), (6, .int a2), (5, .int a1), (4, .int vv), (3, .int u), (0, .int hk), (1, .int x), (2, .int y)]) S.1 S.2.1 d_Mo_hatch_67 hl (by decide) rfl (fun ls hl => ?_)
        refine hp_cut (fun v => v = q_is (q_fa u vv)) 88 [] (fun J => ?_) (fun a4 e_a4 => ?_)
        · refine lv_iload_n S.1 S.2.1 d_Mo_hatch_69 rfl (lv_at hl 4 rfl) ?_
          refine lv_iload S.1 S.2.1 d_Mo_hatch_70 (lv_at hl 3 rfl) ?_
          refine lv_isub S.1 S.2.1 d_Mo_hatch_72 ?_
          refine lv_bipush (v := 16) S.1 S.2.1 d_Mo_hatch_73 (by decide) ?_
          refine lv_iadd S.1 S.2.1 d_Mo_hatch_75 ?_
          refine lv_bipush (v := 16) S.1 S.2.1 d_Mo_hatch_76 (by decide) ?_
          refine lv_irem S.1 S.2.1 d_Mo_hatch_78 (by decide) ?_
          refine lv_iconst (v := 2) S.1 S.2.1 d_Mo_hatch_79 (by decide) ?_
          refine lv_icmp_ge (tgt := 87) S.1 S.2.1 d_Mo_hatch_80 (by decide) (fun c_80 => ?_) (fun c_80 => ?_)
          · refine lv_iconst (v := 0) S.1 S.2.1 d_Mo_hatch_87 (by decide) ?_
            exact J _ (q_is_f (by simp only [z_lt, z_le] at c_80 ⊢; exact Int.not_lt.mpr c_80))
          · refine lv_iconst (v := 1) S.1 S.2.1 d_Mo_hatch_83 (by decide) ?_
            refine lv_goto (tgt := 88) S.1 S.2.1 d_Mo_hatch_84 (by decide) ?_
            exact J _ (q_is_t (by simp only [z_lt, z_le] at c_80 ⊢; exact Int.not_le.mp c_80))
        · refine lv_istore (lv' := [(8, .int a4), (7, .int a3), (6, .int a2), (5, .int a1), (4, .int vv), (3, .int u), (0, .int hk), (1, .int x), (2, .int y)]) S.1 S.2.1 d_Mo_hatch_88 hl (by decide) rfl (fun ls hl => ?_)
          rw [show q_r16 x = u from eu.symm, show q_r16 y = vv from evv.symm]
          refine lv_iload_n S.1 S.2.1 d_Mo_hatch_90 rfl (lv_at hl 6 rfl) ?_
          by_cases k_1 : hk = 1
          · refine lv_tableIn (off := 33) (tgt := 124) S.1 S.2.1 d_Mo_hatch_91 (by rw [k_1]; decide) (by rw [k_1]; decide) (by rw [k_1]; rfl) (by decide) ?_
            refine lv_iload S.1 S.2.1 d_Mo_hatch_124 (lv_at hl 3 rfl) ?_
            exact hp_retRz S hr hlk d_Mo_hatch_126 (by first | decide | (rw [e_a1]; exact q_is_n) | (rw [e_a2]; exact q_is_n) | (rw [e_a3]; exact q_is_n) | (rw [e_a4]; exact q_is_n)) (by rw [e_a1]; exact q_is_c ⟨fun q => Or.inl ⟨k_1, q⟩, fun q => by rcases q with q | q | q | q | q | q <;> first | exact q.2 | (exfalso; have := k_1.symm.trans q.1; revert this; decide) | exact absurd k_1 q.1.1⟩)
          · by_cases k_2 : hk = 2
            · refine lv_tableIn (off := 36) (tgt := 127) S.1 S.2.1 d_Mo_hatch_91 (by rw [k_2]; decide) (by rw [k_2]; decide) (by rw [k_2]; rfl) (by decide) ?_
              refine lv_iload S.1 S.2.1 d_Mo_hatch_127 (lv_at hl 2 rfl) ?_
              exact hp_retRz S hr hlk d_Mo_hatch_129 (by first | decide | (rw [e_a1]; exact q_is_n) | (rw [e_a2]; exact q_is_n) | (rw [e_a3]; exact q_is_n) | (rw [e_a4]; exact q_is_n)) (by rw [e_a2]; exact q_is_c ⟨fun q => Or.inr (Or.inl ⟨k_2, q⟩), fun q => by rcases q with q | q | q | q | q | q <;> first | exact q.2 | (exfalso; have := k_2.symm.trans q.1; revert this; decide) | exact absurd k_2 q.1.2.1⟩)
            · by_cases k_3 : hk = 3
              · refine lv_tableIn (off := 39) (tgt := 130) S.1 S.2.1 d_Mo_hatch_91 (by rw [k_3]; decide) (by rw [k_3]; decide) (by rw [k_3]; rfl) (by decide) ?_
                refine lv_iload S.1 S.2.1 d_Mo_hatch_130 (lv_at hl 1 rfl) ?_
                exact hp_retRz S hr hlk d_Mo_hatch_132 (by first | decide | (rw [e_a1]; exact q_is_n) | (rw [e_a2]; exact q_is_n) | (rw [e_a3]; exact q_is_n) | (rw [e_a4]; exact q_is_n)) (by rw [e_a3]; exact q_is_c ⟨fun q => Or.inr (Or.inr (Or.inl ⟨k_3, q⟩)), fun q => by rcases q with q | q | q | q | q | q <;> first | exact q.2 | (exfalso; have := k_3.symm.trans q.1; revert this; decide) | exact absurd k_3 q.1.2.2.1⟩)
              · by_cases k_4 : hk = 4
                · refine lv_tableIn (off := 42) (tgt := 133) S.1 S.2.1 d_Mo_hatch_91 (by rw [k_4]; decide) (by rw [k_4]; decide) (by rw [k_4]; rfl) (by decide) ?_
                  refine lv_iload S.1 S.2.1 d_Mo_hatch_133 (lv_at hl 0 rfl) ?_
                  exact hp_retRz S hr hlk d_Mo_hatch_135 (by first | decide | (rw [e_a1]; exact q_is_n) | (rw [e_a2]; exact q_is_n) | (rw [e_a3]; exact q_is_n) | (rw [e_a4]; exact q_is_n)) (by rw [e_a4]; exact q_is_c ⟨fun q => Or.inr (Or.inr (Or.inr (Or.inl ⟨k_4, q⟩))), fun q => by rcases q with q | q | q | q | q | q <;> first | exact q.2 | (exfalso; have := k_4.symm.trans q.1; revert this; decide) | exact absurd k_4 q.1.2.2.2.1⟩)
                · by_cases k_5 : hk = 5
                  · refine lv_tableIn (off := 45) (tgt := 136) S.1 S.2.1 d_Mo_hatch_91 (by rw [k_5]; decide) (by rw [k_5]; decide) (by rw [k_5]; rfl) (by decide) ?_
                    refine lv_iload S.1 S.2.1 d_Mo_hatch_136 (lv_at hl 3 rfl) ?_
                    refine lv_if_ne (tgt := 146) S.1 S.2.1 d_Mo_hatch_138 (by decide) (fun c_138 => ?_) (fun c_138 => ?_)
                    · refine lv_iconst (v := 1) S.1 S.2.1 d_Mo_hatch_146 (by decide) ?_
                      refine lv_goto (tgt := 151) S.1 S.2.1 d_Mo_hatch_147 (by decide) ?_
                      exact hp_retRz S hr hlk d_Mo_hatch_151 (by first | decide | (rw [e_a1]; exact q_is_n) | (rw [e_a2]; exact q_is_n) | (rw [e_a3]; exact q_is_n) | (rw [e_a4]; exact q_is_n)) (q_is_t (Or.inr (Or.inr (Or.inr (Or.inr (Or.inl ⟨k_5, Or.inl (q_is_ne.mp (e_a1 ▸ c_138))⟩))))))
                    · refine lv_iload S.1 S.2.1 d_Mo_hatch_141 (lv_at hl 2 rfl) ?_
                      refine lv_if_eq (tgt := 150) S.1 S.2.1 d_Mo_hatch_143 (by decide) (fun c_143 => ?_) (fun c_143 => ?_)
                      · refine lv_iconst (v := 0) S.1 S.2.1 d_Mo_hatch_150 (by decide) ?_
                        exact hp_retRz S hr hlk d_Mo_hatch_151 (by first | decide | (rw [e_a1]; exact q_is_n) | (rw [e_a2]; exact q_is_n) | (rw [e_a3]; exact q_is_n) | (rw [e_a4]; exact q_is_n)) (q_is_f (fun q => by rcases q with q | q | q | q | q | q <;> first | exact k_1 q.1 | exact k_2 q.1 | exact k_3 q.1 | exact k_4 q.1 | exact q.1.2.2.2.2 k_5 | exact q.2.elim (q_is_0.mp (e_a1 ▸ c_138)) (q_is_0.mp (e_a2 ▸ c_143))))
                      · refine lv_iconst (v := 1) S.1 S.2.1 d_Mo_hatch_146 (by decide) ?_
                        refine lv_goto (tgt := 151) S.1 S.2.1 d_Mo_hatch_147 (by decide) ?_
                        exact hp_retRz S hr hlk d_Mo_hatch_151 (by first | decide | (rw [e_a1]; exact q_is_n) | (rw [e_a2]; exact q_is_n) | (rw [e_a3]; exact q_is_n) | (rw [e_a4]; exact q_is_n)) (q_is_t (Or.inr (Or.inr (Or.inr (Or.inr (Or.inl ⟨k_5, Or.inr (q_is_ne.mp (e_a2 ▸ c_143))⟩))))))
                  · have n_1 : ¬ hk.toInt = 1 := lv_neT k_1 rfl
                    have n_2 : ¬ hk.toInt = 2 := lv_neT k_2 rfl
                    have n_3 : ¬ hk.toInt = 3 := lv_neT k_3 rfl
                    have n_4 : ¬ hk.toInt = 4 := lv_neT k_4 rfl
                    have n_5 : ¬ hk.toInt = 5 := lv_neT k_5 rfl
                    refine lv_tableOut (tgt := 152) S.1 S.2.1 d_Mo_hatch_91 (by omega) (by decide) ?_
                    refine lv_iload S.1 S.2.1 d_Mo_hatch_152 (lv_at hl 1 rfl) ?_
                    refine lv_if_ne (tgt := 162) S.1 S.2.1 d_Mo_hatch_154 (by decide) (fun c_154 => ?_) (fun c_154 => ?_)
                    · refine lv_iconst (v := 1) S.1 S.2.1 d_Mo_hatch_162 (by decide) ?_
                      refine lv_goto (tgt := 167) S.1 S.2.1 d_Mo_hatch_163 (by decide) ?_
                      exact hp_retRz S hr hlk d_Mo_hatch_167 (by first | decide | (rw [e_a1]; exact q_is_n) | (rw [e_a2]; exact q_is_n) | (rw [e_a3]; exact q_is_n) | (rw [e_a4]; exact q_is_n)) (q_is_t (Or.inr (Or.inr (Or.inr (Or.inr (Or.inr ⟨⟨k_1, k_2, k_3, k_4, k_5⟩, Or.inl (q_is_ne.mp (e_a3 ▸ c_154))⟩))))))
                    · refine lv_iload S.1 S.2.1 d_Mo_hatch_157 (lv_at hl 0 rfl) ?_
                      refine lv_if_eq (tgt := 166) S.1 S.2.1 d_Mo_hatch_159 (by decide) (fun c_159 => ?_) (fun c_159 => ?_)
                      · refine lv_iconst (v := 0) S.1 S.2.1 d_Mo_hatch_166 (by decide) ?_
                        exact hp_retRz S hr hlk d_Mo_hatch_167 (by first | decide | (rw [e_a1]; exact q_is_n) | (rw [e_a2]; exact q_is_n) | (rw [e_a3]; exact q_is_n) | (rw [e_a4]; exact q_is_n)) (q_is_f (fun q => by rcases q with q | q | q | q | q | q <;> first | exact k_1 q.1 | exact k_2 q.1 | exact k_3 q.1 | exact k_4 q.1 | exact k_5 q.1 | exact q.2.elim (q_is_0.mp (e_a3 ▸ c_154)) (q_is_0.mp (e_a4 ▸ c_159))))
                      · refine lv_iconst (v := 1) S.1 S.2.1 d_Mo_hatch_162 (by decide) ?_
                        refine lv_goto (tgt := 167) S.1 S.2.1 d_Mo_hatch_163 (by decide) ?_
                        exact hp_retRz S hr hlk d_Mo_hatch_167 (by first | decide | (rw [e_a1]; exact q_is_n) | (rw [e_a2]; exact q_is_n) | (rw [e_a3]; exact q_is_n) | (rw [e_a4]; exact q_is_n)) (q_is_t (Or.inr (Or.inr (Or.inr (Or.inr (Or.inr ⟨⟨k_1, k_2, k_3, k_4, k_5⟩, Or.inr (q_is_ne.mp (e_a4 ▸ c_159))⟩))))))


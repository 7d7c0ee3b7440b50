def pX10_isHeat (post : Int32 → Wd → Prop) (x0 : Int32) (w : Wd) : Prop := (x0 < 0 → (post (0 : Int32) w)) ∧ (¬ x0 < 0 → (((10 : Int32) ≤ x0 → (post (0 : Int32) w)) ∧ (¬ (10 : Int32) ≤ x0 → (post (1 : Int32) w))))
set_option maxHeartbeats 4000000 in
set_option maxRecDepth 100000 in
theorem rX10_isHeat {l : Launch} {g : Gw} {w : Wd} {post : Int32 → Wd → Prop}   {x0 : Int32} (hp : pX10_isHeat post x0 w) : MtI tabX l yX10_isHeat cX10_isHeat 1 (some .boolean) 1 g w [.int x0] post := by
  refine q_entZ tabX_nd (by decide) rfl (Nat.le_of_ble_eq_true rfl) ?_
  intro p e s m args below meth c A Q ls hC hR hS hl
  have hx := hC.1
  have hb := hC.2.1
  have hl : lv_has ls 1 [(0, .int x0)] := hl
  unfold pX10_isHeat at hp
  refine lv_iload_n hx hb dX10_isHeat_0 rfl (lv_at hl 0 rfl) ?_
  refine lv_if_lt (tgt := 14) hx hb dX10_isHeat_1 (by decide) (fun c_1 => ?_) (fun c_1 => ?_)
  · have hp := hp.1 c_1
    refine lv_iconst hx hb dX10_isHeat_14 kI_0 ?_
    exact hR _ _ _ _ _ _ dX10_isHeat_15 (by decide) hp hS
  · have hp := hp.2 c_1
    refine lv_iload_n hx hb dX10_isHeat_4 rfl (lv_at hl 0 rfl) ?_
    refine lv_bipush hx hb dX10_isHeat_5 kB_10 ?_
    refine lv_icmp_ge (tgt := 14) hx hb dX10_isHeat_7 (by decide) (fun c_2 => ?_) (fun c_2 => ?_)
    · have hp := hp.1 c_2
      refine lv_iconst hx hb dX10_isHeat_14 kI_0 ?_
      exact hR _ _ _ _ _ _ dX10_isHeat_15 (by decide) hp hS
    · have hp := hp.2 c_2
      refine lv_iconst hx hb dX10_isHeat_10 kI_1 ?_
      refine lv_goto (tgt := 15) hx hb dX10_isHeat_11 (by decide) ?_
      exact hR _ _ _ _ _ _ dX10_isHeat_15 (by decide) hp hS
def pJ6_bitCount_0f7a4 (post : Int32 → Wd → Prop) (x0 : Int32) (w : Wd) : Prop := ∀ x0_1, x0_1 = (x0 - ((x0.toUInt32 >>> ((1 : Int32).toUInt32 &&& Int32.toUInt32 31)).toInt32 &&& (1431655765 : Int32))) → ∀ x0_2, x0_2 = ((x0_1 &&& (858993459 : Int32)) + ((x0_1.toUInt32 >>> ((2 : Int32).toUInt32 &&& Int32.toUInt32 31)).toInt32 &&& (858993459 : Int32))) → ∀ x0_3, x0_3 = ((x0_2 + (x0_2.toUInt32 >>> ((4 : Int32).toUInt32 &&& Int32.toUInt32 31)).toInt32) &&& (252645135 : Int32)) → ∀ x0_4, x0_4 = (x0_3 + (x0_3.toUInt32 >>> ((8 : Int32).toUInt32 &&& Int32.toUInt32 31)).toInt32) → ∀ x0_5, x0_5 = (x0_4 + (x0_4.toUInt32 >>> ((16 : Int32).toUInt32 &&& Int32.toUInt32 31)).toInt32) → post (x0_5 &&& (63 : Int32)) w
set_option maxHeartbeats 4000000 in
set_option maxRecDepth 100000 in
theorem rJ6_bitCount_0f7a4 {l : Launch} {g : Gw} {w : Wd} {post : Int32 → Wd → Prop}   {x0 : Int32} (hp : pJ6_bitCount_0f7a4 post x0 w) : MtI tabX l yJ6_bitCount_0f7a4 cJ6_bitCount_0f7a4 1 (some .int) 1 g w [.int x0] post := by
  refine q_entI tabX_nd (by decide) rfl (Nat.le_of_ble_eq_true rfl) ?_
  intro p e s m args below meth c A Q ls hC hR hS hl
  have hx := hC.1
  have hb := hC.2.1
  have hl : lv_has ls 1 [(0, .int x0)] := hl
  unfold pJ6_bitCount_0f7a4 at hp
  refine lv_iload_n hx hb dJ6_bitCount_0f7a4_0 rfl (lv_at hl 0 rfl) ?_
  refine lv_iload_n hx hb dJ6_bitCount_0f7a4_1 rfl (lv_at hl 0 rfl) ?_
  refine lv_iconst hx hb dJ6_bitCount_0f7a4_2 kI_1 ?_
  refine lv_iushr hx hb dJ6_bitCount_0f7a4_3 rfl ?_
  refine lv_ldcw hx hb hC.2.2.2.1 (hC.2.2.2.2.1 _ m711) dJ6_bitCount_0f7a4_4 ?_
  refine lv_iand hx hb dJ6_bitCount_0f7a4_7 ?_
  refine lv_isub hx hb dJ6_bitCount_0f7a4_8 ?_
  refine lv_topi (fun x0_1 ex0_1 => ?_)
  have hp := hp x0_1 ex0_1
  refine lv_istore_n (lv' := [(0, .int x0_1)]) hx hb dJ6_bitCount_0f7a4_9 rfl hl (by decide) rfl (fun ls hl => ?_)
  refine lv_iload_n hx hb dJ6_bitCount_0f7a4_10 rfl (lv_at hl 0 rfl) ?_
  refine lv_ldcw hx hb hC.2.2.2.1 (hC.2.2.2.2.1 _ m712) dJ6_bitCount_0f7a4_11 ?_
  refine lv_iand hx hb dJ6_bitCount_0f7a4_14 ?_
  refine lv_iload_n hx hb dJ6_bitCount_0f7a4_15 rfl (lv_at hl 0 rfl) ?_
  refine lv_iconst hx hb dJ6_bitCount_0f7a4_16 kI_2 ?_
  refine lv_iushr hx hb dJ6_bitCount_0f7a4_17 rfl ?_
  refine lv_ldcw hx hb hC.2.2.2.1 (hC.2.2.2.2.1 _ m712) dJ6_bitCount_0f7a4_18 ?_
  refine lv_iand hx hb dJ6_bitCount_0f7a4_21 ?_
  refine lv_iadd hx hb dJ6_bitCount_0f7a4_22 ?_
  refine lv_topi (fun x0_2 ex0_2 => ?_)
  have hp := hp x0_2 ex0_2
  refine lv_istore_n (lv' := [(0, .int x0_2)]) hx hb dJ6_bitCount_0f7a4_23 rfl hl (by decide) rfl (fun ls hl => ?_)
  refine lv_iload_n hx hb dJ6_bitCount_0f7a4_24 rfl (lv_at hl 0 rfl) ?_
  refine lv_iload_n hx hb dJ6_bitCount_0f7a4_25 rfl (lv_at hl 0 rfl) ?_
  refine lv_iconst hx hb dJ6_bitCount_0f7a4_26 kI_4 ?_
  refine lv_iushr hx hb dJ6_bitCount_0f7a4_27 rfl ?_
  refine lv_iadd hx hb dJ6_bitCount_0f7a4_28 ?_
  refine lv_ldcw hx hb hC.2.2.2.1 (hC.2.2.2.2.1 _ m713) dJ6_bitCount_0f7a4_29 ?_
  refine lv_iand hx hb dJ6_bitCount_0f7a4_32 ?_
  refine lv_topi (fun x0_3 ex0_3 => ?_)
  have hp := hp x0_3 ex0_3
  refine lv_istore_n (lv' := [(0, .int x0_3)]) hx hb dJ6_bitCount_0f7a4_33 rfl hl (by decide) rfl (fun ls hl => ?_)
  refine lv_iload_n hx hb dJ6_bitCount_0f7a4_34 rfl (lv_at hl 0 rfl) ?_
  refine lv_iload_n hx hb dJ6_bitCount_0f7a4_35 rfl (lv_at hl 0 rfl) ?_
  refine lv_bipush hx hb dJ6_bitCount_0f7a4_36 kB_8 ?_
  refine lv_iushr hx hb dJ6_bitCount_0f7a4_38 rfl ?_
  refine lv_iadd hx hb dJ6_bitCount_0f7a4_39 ?_
  refine lv_topi (fun x0_4 ex0_4 => ?_)
  have hp := hp x0_4 ex0_4
  refine lv_istore_n (lv' := [(0, .int x0_4)]) hx hb dJ6_bitCount_0f7a4_40 rfl hl (by decide) rfl (fun ls hl => ?_)
  refine lv_iload_n hx hb dJ6_bitCount_0f7a4_41 rfl (lv_at hl 0 rfl) ?_
  refine lv_iload_n hx hb dJ6_bitCount_0f7a4_42 rfl (lv_at hl 0 rfl) ?_
  refine lv_bipush hx hb dJ6_bitCount_0f7a4_43 kB_16 ?_
  refine lv_iushr hx hb dJ6_bitCount_0f7a4_45 rfl ?_
  refine lv_iadd hx hb dJ6_bitCount_0f7a4_46 ?_
  refine lv_topi (fun x0_5 ex0_5 => ?_)
  have hp := hp x0_5 ex0_5
  refine lv_istore_n (lv' := [(0, .int x0_5)]) hx hb dJ6_bitCount_0f7a4_47 rfl hl (by decide) rfl (fun ls hl => ?_)
  refine lv_iload_n hx hb dJ6_bitCount_0f7a4_48 rfl (lv_at hl 0 rfl) ?_
  refine lv_bipush hx hb dJ6_bitCount_0f7a4_49 kB_63 ?_
  refine lv_iand hx hb dJ6_bitCount_0f7a4_51 ?_
  exact hR _ _ _ _ _ _ dJ6_bitCount_0f7a4_52 hp hS
def pX7_join (post : Int32 → Wd → Prop) (x0 : Int32) (x1 : Int32) (x2 : Int32) (w : Wd) : Prop := (x0.toInt = 14 → ((¬ x1 = 0 → (post (1 : Int32) w)) ∧ (x1 = 0 → ((x2 = 0 → (post (0 : Int32) w)) ∧ (¬ x2 = 0 → (post (1 : Int32) w)))))) ∧ (¬ x0.toInt = 14 → (x0.toInt = 15 → ((x1 = 0 → (post (0 : Int32) w)) ∧ (¬ x1 = 0 → ((x2 = 0 → (post (0 : Int32) w)) ∧ (¬ x2 = 0 → (post (1 : Int32) w)))))) ∧ (¬ x0.toInt = 15 → (x0.toInt = 37 → ((¬ x2 = 0 → (¬ x2 = 0 ∧ post (x1 - x1 / x2 * x2) w)) ∧ (x2 = 0 → (post (0 : Int32) w)))) ∧ (¬ x0.toInt = 37 → (x0.toInt = 42 → (post (x1 * x2) w)) ∧ (¬ x0.toInt = 42 → (x0.toInt = 43 → (post (x1 + x2) w)) ∧ (¬ x0.toInt = 43 → (x0.toInt = 45 → (post (x1 - x2) w)) ∧ (¬ x0.toInt = 45 → (x0.toInt = 47 → ((¬ x2 = 0 → (¬ x2 = 0 ∧ post (x1 / x2) w)) ∧ (x2 = 0 → (post (0 : Int32) w)))) ∧ (¬ x0.toInt = 47 → (x0.toInt = 60 → ((x2 ≤ x1 → (post (0 : Int32) w)) ∧ (¬ x2 ≤ x1 → (post (1 : Int32) w)))) ∧ (¬ x0.toInt = 60 → (x0.toInt = 61 → ((¬ x1 = x2 → (post (0 : Int32) w)) ∧ (x1 = x2 → (post (1 : Int32) w)))) ∧ (¬ x0.toInt = 61 → (x0.toInt = 62 → ((x1 ≤ x2 → (post (0 : Int32) w)) ∧ (¬ x1 ≤ x2 → (post (1 : Int32) w)))) ∧ (¬ x0.toInt = 62 → post (0 : Int32) w))))))))))
set_option maxHeartbeats 4000000 in
set_option maxRecDepth 100000 in
theorem rX7_join {l : Launch} {g : Gw} {w : Wd} {post : Int32 → Wd → Prop}   {x0 : Int32} {x1 : Int32} {x2 : Int32} (hp : pX7_join post x0 x1 x2 w) : MtI tabX l yX7_join cX7_join 3 (some .int) 1 g w [.int x0, .int x1, .int x2] post := by
  refine q_entI tabX_nd (by decide) rfl (Nat.le_of_ble_eq_true rfl) ?_
  intro p e s m args below meth c A Q ls hC hR hS hl
  have hx := hC.1
  have hb := hC.2.1
  have hl : lv_has ls 3 [(0, .int x0), (1, .int x1), (2, .int x2)] := hl
  unfold pX7_join at hp
  refine lv_iload_n hx hb dX7_join_0 rfl (lv_at hl 0 rfl) ?_
  by_cases c_1_0 : x0.toInt = 14
  · have hp := hp.1 c_1_0
    refine lv_lookup (off := 91) (tgt := 92) hx hb dX7_join_1 (by decide) (by rw [c_1_0]; decide) (by decide) ?_
    refine lv_iload_n hx hb dX7_join_92 rfl (lv_at hl 1 rfl) ?_
    refine lv_if_ne (tgt := 100) hx hb dX7_join_93 (by decide) (fun c_2 => ?_) (fun c_2 => ?_)
    · have hp := hp.1 c_2
      refine lv_iconst hx hb dX7_join_100 kI_1 ?_
      refine lv_goto (tgt := 105) hx hb dX7_join_101 (by decide) ?_
      exact hR _ _ _ _ _ _ dX7_join_105 hp hS
    · have hp := hp.2 c_2
      refine lv_iload_n hx hb dX7_join_96 rfl (lv_at hl 2 rfl) ?_
      refine lv_if_eq (tgt := 104) hx hb dX7_join_97 (by decide) (fun c_3 => ?_) (fun c_3 => ?_)
      · have hp := hp.1 c_3
        refine lv_iconst hx hb dX7_join_104 kI_0 ?_
        exact hR _ _ _ _ _ _ dX7_join_105 hp hS
      · have hp := hp.2 c_3
        refine lv_iconst hx hb dX7_join_100 kI_1 ?_
        refine lv_goto (tgt := 105) hx hb dX7_join_101 (by decide) ?_
        exact hR _ _ _ _ _ _ dX7_join_105 hp hS
  · have hp := hp.2 c_1_0
    by_cases c_1_1 : x0.toInt = 15
    · have hp := hp.1 c_1_1
      refine lv_lookup (off := 105) (tgt := 106) hx hb dX7_join_1 (by decide) (by rw [c_1_1]; decide) (by decide) ?_
      refine lv_iload_n hx hb dX7_join_106 rfl (lv_at hl 1 rfl) ?_
      refine lv_if_eq (tgt := 118) hx hb dX7_join_107 (by decide) (fun c_4 => ?_) (fun c_4 => ?_)
      · have hp := hp.1 c_4
        refine lv_iconst hx hb dX7_join_118 kI_0 ?_
        exact hR _ _ _ _ _ _ dX7_join_119 hp hS
      · have hp := hp.2 c_4
        refine lv_iload_n hx hb dX7_join_110 rfl (lv_at hl 2 rfl) ?_
        refine lv_if_eq (tgt := 118) hx hb dX7_join_111 (by decide) (fun c_5 => ?_) (fun c_5 => ?_)
        · have hp := hp.1 c_5
          refine lv_iconst hx hb dX7_join_118 kI_0 ?_
          exact hR _ _ _ _ _ _ dX7_join_119 hp hS
        · have hp := hp.2 c_5
          refine lv_iconst hx hb dX7_join_114 kI_1 ?_
          refine lv_goto (tgt := 119) hx hb dX7_join_115 (by decide) ?_
          exact hR _ _ _ _ _ _ dX7_join_119 hp hS
    · have hp := hp.2 c_1_1
      by_cases c_1_2 : x0.toInt = 37
      · have hp := hp.1 c_1_2
        refine lv_lookup (off := 176) (tgt := 177) hx hb dX7_join_1 (by decide) (by rw [c_1_2]; decide) (by decide) ?_
        refine lv_iload_n hx hb dX7_join_177 rfl (lv_at hl 2 rfl) ?_
        refine lv_if_ne (tgt := 185) hx hb dX7_join_178 (by decide) (fun c_6 => ?_) (fun c_6 => ?_)
        · have hp := hp.1 c_6
          refine lv_iload_n hx hb dX7_join_185 rfl (lv_at hl 1 rfl) ?_
          refine lv_iload_n hx hb dX7_join_186 rfl (lv_at hl 2 rfl) ?_
          refine lv_irem hx hb dX7_join_187 hp.1 ?_
          have hp := hp.2
          exact hR _ _ _ _ _ _ dX7_join_188 hp hS
        · have hp := hp.2 c_6
          refine lv_iconst hx hb dX7_join_181 kI_0 ?_
          refine lv_goto (tgt := 188) hx hb dX7_join_182 (by decide) ?_
          exact hR _ _ _ _ _ _ dX7_join_188 hp hS
      · have hp := hp.2 c_1_2
        by_cases c_1_3 : x0.toInt = 42
        · have hp := hp.1 c_1_3
          refine lv_lookup (off := 160) (tgt := 161) hx hb dX7_join_1 (by decide) (by rw [c_1_3]; decide) (by decide) ?_
          refine lv_iload_n hx hb dX7_join_161 rfl (lv_at hl 1 rfl) ?_
          refine lv_iload_n hx hb dX7_join_162 rfl (lv_at hl 2 rfl) ?_
          refine lv_imul hx hb dX7_join_163 ?_
          exact hR _ _ _ _ _ _ dX7_join_164 hp hS
        · have hp := hp.2 c_1_3
          by_cases c_1_4 : x0.toInt = 43
          · have hp := hp.1 c_1_4
            refine lv_lookup (off := 152) (tgt := 153) hx hb dX7_join_1 (by decide) (by rw [c_1_4]; decide) (by decide) ?_
            refine lv_iload_n hx hb dX7_join_153 rfl (lv_at hl 1 rfl) ?_
            refine lv_iload_n hx hb dX7_join_154 rfl (lv_at hl 2 rfl) ?_
            refine lv_iadd hx hb dX7_join_155 ?_
            exact hR _ _ _ _ _ _ dX7_join_156 hp hS
          · have hp := hp.2 c_1_4
            by_cases c_1_5 : x0.toInt = 45
            · have hp := hp.1 c_1_5
              refine lv_lookup (off := 156) (tgt := 157) hx hb dX7_join_1 (by decide) (by rw [c_1_5]; decide) (by decide) ?_
              refine lv_iload_n hx hb dX7_join_157 rfl (lv_at hl 1 rfl) ?_
              refine lv_iload_n hx hb dX7_join_158 rfl (lv_at hl 2 rfl) ?_
              refine lv_isub hx hb dX7_join_159 ?_
              exact hR _ _ _ _ _ _ dX7_join_160 hp hS
            · have hp := hp.2 c_1_5
              by_cases c_1_6 : x0.toInt = 47
              · have hp := hp.1 c_1_6
                refine lv_lookup (off := 164) (tgt := 165) hx hb dX7_join_1 (by decide) (by rw [c_1_6]; decide) (by decide) ?_
                refine lv_iload_n hx hb dX7_join_165 rfl (lv_at hl 2 rfl) ?_
                refine lv_if_ne (tgt := 173) hx hb dX7_join_166 (by decide) (fun c_7 => ?_) (fun c_7 => ?_)
                · have hp := hp.1 c_7
                  refine lv_iload_n hx hb dX7_join_173 rfl (lv_at hl 1 rfl) ?_
                  refine lv_iload_n hx hb dX7_join_174 rfl (lv_at hl 2 rfl) ?_
                  refine lv_idiv hx hb dX7_join_175 hp.1 ?_
                  have hp := hp.2
                  exact hR _ _ _ _ _ _ dX7_join_176 hp hS
                · have hp := hp.2 c_7
                  refine lv_iconst hx hb dX7_join_169 kI_0 ?_
                  refine lv_goto (tgt := 176) hx hb dX7_join_170 (by decide) ?_
                  exact hR _ _ _ _ _ _ dX7_join_176 hp hS
              · have hp := hp.2 c_1_6
                by_cases c_1_7 : x0.toInt = 60
                · have hp := hp.1 c_1_7
                  refine lv_lookup (off := 119) (tgt := 120) hx hb dX7_join_1 (by decide) (by rw [c_1_7]; decide) (by decide) ?_
                  refine lv_iload_n hx hb dX7_join_120 rfl (lv_at hl 1 rfl) ?_
                  refine lv_iload_n hx hb dX7_join_121 rfl (lv_at hl 2 rfl) ?_
                  refine lv_icmp_ge (tgt := 129) hx hb dX7_join_122 (by decide) (fun c_8 => ?_) (fun c_8 => ?_)
                  · have hp := hp.1 c_8
                    refine lv_iconst hx hb dX7_join_129 kI_0 ?_
                    exact hR _ _ _ _ _ _ dX7_join_130 hp hS
                  · have hp := hp.2 c_8
                    refine lv_iconst hx hb dX7_join_125 kI_1 ?_
                    refine lv_goto (tgt := 130) hx hb dX7_join_126 (by decide) ?_
                    exact hR _ _ _ _ _ _ dX7_join_130 hp hS
                · have hp := hp.2 c_1_7
                  by_cases c_1_8 : x0.toInt = 61
                  · have hp := hp.1 c_1_8
                    refine lv_lookup (off := 141) (tgt := 142) hx hb dX7_join_1 (by decide) (by rw [c_1_8]; decide) (by decide) ?_
                    refine lv_iload_n hx hb dX7_join_142 rfl (lv_at hl 1 rfl) ?_
                    refine lv_iload_n hx hb dX7_join_143 rfl (lv_at hl 2 rfl) ?_
                    refine lv_icmp_ne (tgt := 151) hx hb dX7_join_144 (by decide) (fun c_9 => ?_) (fun c_9 => ?_)
                    · have hp := hp.1 c_9
                      refine lv_iconst hx hb dX7_join_151 kI_0 ?_
                      exact hR _ _ _ _ _ _ dX7_join_152 hp hS
                    · have hp := hp.2 c_9
                      refine lv_iconst hx hb dX7_join_147 kI_1 ?_
                      refine lv_goto (tgt := 152) hx hb dX7_join_148 (by decide) ?_
                      exact hR _ _ _ _ _ _ dX7_join_152 hp hS
                  · have hp := hp.2 c_1_8
                    by_cases c_1_9 : x0.toInt = 62
                    · have hp := hp.1 c_1_9
                      refine lv_lookup (off := 130) (tgt := 131) hx hb dX7_join_1 (by decide) (by rw [c_1_9]; decide) (by decide) ?_
                      refine lv_iload_n hx hb dX7_join_131 rfl (lv_at hl 1 rfl) ?_
                      refine lv_iload_n hx hb dX7_join_132 rfl (lv_at hl 2 rfl) ?_
                      refine lv_icmp_le (tgt := 140) hx hb dX7_join_133 (by decide) (fun c_10 => ?_) (fun c_10 => ?_)
                      · have hp := hp.1 c_10
                        refine lv_iconst hx hb dX7_join_140 kI_0 ?_
                        exact hR _ _ _ _ _ _ dX7_join_141 hp hS
                      · have hp := hp.2 c_10
                        refine lv_iconst hx hb dX7_join_136 kI_1 ?_
                        refine lv_goto (tgt := 141) hx hb dX7_join_137 (by decide) ?_
                        exact hR _ _ _ _ _ _ dX7_join_141 hp hS
                    · have hp := hp.2 c_1_9
                      refine lv_lookup (off := 188) (tgt := 189) hx hb dX7_join_1 (by decide) (by simp [Op.lookupswitch.offset, Ne.symm c_1_0, Ne.symm c_1_1, Ne.symm c_1_2, Ne.symm c_1_3, Ne.symm c_1_4, Ne.symm c_1_5, Ne.symm c_1_6, Ne.symm c_1_7, Ne.symm c_1_8, Ne.symm c_1_9]) (by decide) ?_
                      refine lv_iconst hx hb dX7_join_189 kI_0 ?_
                      exact hR _ _ _ _ _ _ dX7_join_190 hp hS
def pX7_valueOf_225 (k56 : Int32 → Int32 → Int32 → Wd → Prop) (post : Int32 → Wd → Prop) (b : Bool) (x3 : Int32) (x4 : Int32) (x5 : Int32) (w : Wd) : Prop := ∀ x5_1, x5_1 = x5 + (1 : Int32) → k56 x3 x4 x5_1 w
def pX7_valueOf_188 (k56 : Int32 → Int32 → Int32 → Wd → Prop) (post : Int32 → Wd → Prop) (b : Bool) (x3 : Int32) (x4 : Int32) (x5 : Int32) (x6 : Int32) (w : Wd) : Prop := (x4 < (1 : Int32) → (pX7_valueOf_225 k56 post b x3 x4 x5 w)) ∧ (¬ x4 < (1 : Int32) → (∀ x4_2, x4_2 = x4 + (-1 : Int32) → vp_in x4_2 32 ∧ vp_in (x4_2 + (1 : Int32)) 32 ∧ pX7_join (fun r_3 w_4 => vp_in x4_2 32 ∧ ∀ w_5, w_5 = sA w_4 ((rl b) + 13) x4_2.toNatClampNeg r_3 → pX7_valueOf_225 k56 post b x3 x4_2 x5 w_5) x6 (w.2.1 ((rl b) + 13) x4_2.toNatClampNeg) (w.2.1 ((rl b) + 13) (x4_2 + (1 : Int32)).toNatClampNeg) w))
def pX7_valueOf_184 (k56 : Int32 → Int32 → Int32 → Wd → Prop) (post : Int32 → Wd → Prop) (b : Bool) (x3 : Int32) (x4 : Int32) (x5 : Int32) (t1 : Int32) (t2 : Int32) (w : Wd) : Prop := vp_in t1 32 ∧ ∀ w_1, w_1 = sA w ((rl b) + 13) t1.toNatClampNeg t2 → pX7_valueOf_225 k56 post b x3 x4 x5 w_1
def pX7_valueOf_151 (k56 : Int32 → Int32 → Int32 → Wd → Prop) (post : Int32 → Wd → Prop) (b : Bool) (x3 : Int32) (x4 : Int32) (x5 : Int32) (x6 : Int32) (w : Wd) : Prop := (¬ x6 = (16 : Int32) → (pX7_valueOf_188 k56 post b x3 x4 x5 x6 w)) ∧ (x6 = (16 : Int32) → ((x4 < 0 → (pX7_valueOf_188 k56 post b x3 x4 x5 x6 w)) ∧ (¬ x4 < 0 → (vp_in x4 32 ∧ (¬ (w.2.1 ((rl b) + 13) x4.toNatClampNeg) = 0 → (pX7_valueOf_184 k56 post b x3 x4 x5 x4 (0 : Int32) w)) ∧ ((w.2.1 ((rl b) + 13) x4.toNatClampNeg) = 0 → (pX7_valueOf_184 k56 post b x3 x4 x5 x4 (1 : Int32) w))))))
def pX7_valueOf_110 (k56 : Int32 → Int32 → Int32 → Wd → Prop) (post : Int32 → Wd → Prop) (b : Bool) (x3 : Int32) (x4 : Int32) (x5 : Int32) (x6 : Int32) (w : Wd) : Prop := (x6 < 0 → (pX7_valueOf_151 k56 post b x3 x4 x5 x6 w)) ∧ (¬ x6 < 0 → (((8 : Int32) ≤ x6 → (pX7_valueOf_151 k56 post b x3 x4 x5 x6 w)) ∧ (¬ (8 : Int32) ≤ x6 → ((((32 : Int32) - (1 : Int32)) ≤ x4 → (pX7_valueOf_151 k56 post b x3 x4 x5 x6 w)) ∧ (¬ ((32 : Int32) - (1 : Int32)) ≤ x4 → (∀ x4_4, x4_4 = x4 + (1 : Int32) → vp_in x6 8 ∧ vp_in x4_4 32 ∧ ∀ w_5, w_5 = sA w ((rl b) + 13) x4_4.toNatClampNeg (w.2.1 46 x6.toNatClampNeg) → pX7_valueOf_225 k56 post b x3 x4_4 x5 w_5))))))
def pX7_valueOf_56 (post : Int32 → Wd → Prop) (b : Bool) : Nat → Int32 → Int32 → Int32 → Wd → Prop
  | 0, _, _, _, _ => False
  | n + 1, x3, x4, x5, w => (x3 ≤ x5 → ((x4 < 0 → (post (0 : Int32) w)) ∧ (¬ x4 < 0 → (post (w.2.1 ((rl b) + 13) (0 : Int32).toNatClampNeg) w)))) ∧ (¬ x3 ≤ x5 → (vp_in x5 1600 ∧ ∀ x6_3, x6_3 = (w.2.1 ((rl b) + 9) x5.toNatClampNeg) → (x6_3 < (128 : Int32) → (pX7_valueOf_110 (pX7_valueOf_56 post b n) post b x3 x4 x5 x6_3 w)) ∧ (¬ x6_3 < (128 : Int32) → ((((32 : Int32) - (1 : Int32)) ≤ x4 → (pX7_valueOf_110 (pX7_valueOf_56 post b n) post b x3 x4 x5 x6_3 w)) ∧ (¬ ((32 : Int32) - (1 : Int32)) ≤ x4 → (∀ x4_6, x4_6 = x4 + (1 : Int32) → vp_in x4_6 32 ∧ ∀ w_7, w_7 = sA w ((rl b) + 13) x4_6.toNatClampNeg (x6_3 - (128 : Int32)) → pX7_valueOf_225 (pX7_valueOf_56 post b n) post b x3 x4_6 x5 w_7))))))
def pX7_valueOf (post : Int32 → Wd → Prop) (b : Bool) (x1 : Int32) (w : Wd) : Prop := (x1 < 0 → (post (0 : Int32) w)) ∧ (¬ x1 < 0 → (((w.1 (rl b) 11) ≤ x1 → (post (0 : Int32) w)) ∧ (¬ (w.1 (rl b) 11) ≤ x1 → ((x1 < ((9 : Int32) - (1 : Int32)) → (vp_in (x1 + (1 : Int32)) 9 ∧ ∀ x3_4, x3_4 = (if (w.1 (rl b) 9) < (w.2.1 ((rl b) + 11) (x1 + (1 : Int32)).toNatClampNeg) then (w.1 (rl b) 9) else (w.2.1 ((rl b) + 11) (x1 + (1 : Int32)).toNatClampNeg)) → vp_in x1 9 ∧ ∀ x5_5, x5_5 = (if (w.2.1 ((rl b) + 11) x1.toNatClampNeg) < (0 : Int32) then (0 : Int32) else (w.2.1 ((rl b) + 11) x1.toNatClampNeg)) → ∃ n9, pX7_valueOf_56 post b n9 x3_4 (-1 : Int32) x5_5 w)) ∧ (¬ x1 < ((9 : Int32) - (1 : Int32)) → (post (0 : Int32) w))))))
set_option maxHeartbeats 4000000 in
set_option maxRecDepth 100000 in
theorem bX7_valueOf_225 {p : Program} {l : Launch} {e : Env} {s : State} {m : MethodId} {args : Array Value} {below : List Frame} {meth : Method} {c : Code} {Q : State → Prop} {A : Nat → Prop} {g : Gw} {post : Int32 → Wd → Prop} {b : Bool} (hC : Cx p s m args c cX7_valueOf RX7 7 g) (hR : RtI tabX p l e (rk 2) s m args below meth c Q cX7_valueOf A g post)  {k56 : Int32 → Int32 → Int32 → Wd → Prop} (hk56 : ∀ (x3 : Int32) (x4 : Int32) (x5 : Int32) (w : Wd) (H : Heap) (locs : List Loc) (ls : Array Slot), k56 x3 x4 x5 w → St tabX A s.heap g w H locs → lv_has ls 7 [(0, .ref (g.2.2 (rl b))), (2, .ref (g.2.2 46)), (3, .int x3), (4, .int x4), (5, .int x5)] → W p l e (rk 2) s m args below meth c H locs 0 0 Q (F0 m 56 ls [])) : ∀ (x3 : Int32) (x4 : Int32) (x5 : Int32) (w : Wd) (H : Heap) (locs : List Loc) (ls : Array Slot), pX7_valueOf_225 k56 post b x3 x4 x5 w → St tabX A s.heap g w H locs → lv_has ls 7 [(0, .ref (g.2.2 (rl b))), (2, .ref (g.2.2 46)), (3, .int x3), (4, .int x4), (5, .int x5)] → W p l e (rk 2) s m args below meth c H locs 0 0 Q (F0 m 225 ls []) := by
  have hx := hC.1
  have hb := hC.2.1
  intro x3 x4 x5 w H locs ls hp hS hl
  unfold pX7_valueOf_225 at hp
  obtain ⟨x5_1, ex5_1⟩ : ∃ y : Int32, y = x5 + (1 : Int32) := ⟨_, rfl⟩
  have hp := hp x5_1 ex5_1
  refine lv_iinc (v := x5_1) (lv' := [(5, .int x5_1), (0, .ref (g.2.2 (rl b))), (2, .ref (g.2.2 46)), (3, .int x3), (4, .int x4)]) hx hb dX7_valueOf_225 hl (k := 4) rfl (by rw [ex5_1]; rfl) (by decide) rfl (fun ls hl => ?_)
  refine lv_goto (tgt := 56) hx hb dX7_valueOf_228 (by decide) ?_
  exact hk56 x3 x4 x5_1 w _ _ _ hp hS (lv_sub hl [1, 2, 3, 4, 0] rfl)
set_option maxHeartbeats 4000000 in
set_option maxRecDepth 100000 in
theorem bX7_valueOf_188 {p : Program} {l : Launch} {e : Env} {s : State} {m : MethodId} {args : Array Value} {below : List Frame} {meth : Method} {c : Code} {Q : State → Prop} {A : Nat → Prop} {g : Gw} {post : Int32 → Wd → Prop} {b : Bool} (hC : Cx p s m args c cX7_valueOf RX7 7 g) (hR : RtI tabX p l e (rk 2) s m args below meth c Q cX7_valueOf A g post)  {k56 : Int32 → Int32 → Int32 → Wd → Prop} (hk56 : ∀ (x3 : Int32) (x4 : Int32) (x5 : Int32) (w : Wd) (H : Heap) (locs : List Loc) (ls : Array Slot), k56 x3 x4 x5 w → St tabX A s.heap g w H locs → lv_has ls 7 [(0, .ref (g.2.2 (rl b))), (2, .ref (g.2.2 46)), (3, .int x3), (4, .int x4), (5, .int x5)] → W p l e (rk 2) s m args below meth c H locs 0 0 Q (F0 m 56 ls [])) : ∀ (x3 : Int32) (x4 : Int32) (x5 : Int32) (x6 : Int32) (w : Wd) (H : Heap) (locs : List Loc) (ls : Array Slot), pX7_valueOf_188 k56 post b x3 x4 x5 x6 w → St tabX A s.heap g w H locs → lv_has ls 7 [(0, .ref (g.2.2 (rl b))), (2, .ref (g.2.2 46)), (3, .int x3), (4, .int x4), (5, .int x5), (6, .int x6)] → W p l e (rk 2) s m args below meth c H locs 0 0 Q (F0 m 188 ls []) := by
  have hx := hC.1
  have hb := hC.2.1
  intro x3 x4 x5 x6 w H locs ls hp hS hl
  unfold pX7_valueOf_188 at hp
  refine lv_iload hx hb dX7_valueOf_188 (lv_at hl 3 rfl) ?_
  refine lv_iconst hx hb dX7_valueOf_190 kI_1 ?_
  refine lv_icmp_lt (tgt := 225) hx hb dX7_valueOf_191 (by decide) (fun c_1 => ?_) (fun c_1 => ?_)
  · have hp := hp.1 c_1
    exact bX7_valueOf_225 hC hR hk56 x3 x4 x5 w _ _ _ hp hS (lv_sub hl [0, 1, 2, 3, 4] rfl)
  · have hp := hp.2 c_1
    obtain ⟨x4_2, ex4_2⟩ : ∃ y : Int32, y = x4 + (-1 : Int32) := ⟨_, rfl⟩
    have hp := hp x4_2 ex4_2
    refine lv_iinc (v := x4_2) (lv' := [(4, .int x4_2), (0, .ref (g.2.2 (rl b))), (2, .ref (g.2.2 46)), (3, .int x3), (5, .int x5), (6, .int x6)]) hx hb dX7_valueOf_194 hl (k := 3) rfl (by rw [ex4_2]; rfl) (by decide) rfl (fun ls hl => ?_)
    refine lv_aload_n hx hb dX7_valueOf_197 rfl (lv_at hl 1 rfl) ?_
    refine GR_12 hC hS m132 dX7_valueOf_198 ?_
    refine lv_iload hx hb dX7_valueOf_201 (lv_at hl 0 rfl) ?_
    refine lv_iload hx hb dX7_valueOf_203 (lv_at hl 5 rfl) ?_
    refine lv_aload_n hx hb dX7_valueOf_205 rfl (lv_at hl 1 rfl) ?_
    refine GR_12 hC hS m132 dX7_valueOf_206 ?_
    refine lv_iload hx hb dX7_valueOf_209 (lv_at hl 0 rfl) ?_
    refine LaR_12 hC hS hp.1 dX7_valueOf_211 ?_
    have hp := hp.2
    refine lv_aload_n hx hb dX7_valueOf_212 rfl (lv_at hl 1 rfl) ?_
    refine GR_12 hC hS m132 dX7_valueOf_213 ?_
    refine lv_iload hx hb dX7_valueOf_216 (lv_at hl 0 rfl) ?_
    refine lv_iconst hx hb dX7_valueOf_218 kI_1 ?_
    refine lv_iadd hx hb dX7_valueOf_219 ?_
    refine LaR_12 hC hS hp.1 dX7_valueOf_220 ?_
    have hp := hp.2
    refine q_csI (As := [.int x6, .int (w.2.1 ((rl b) + 13) x4_2.toNatClampNeg), .int (w.2.1 ((rl b) + 13) (x4_2 + (1 : Int32)).toNatClampNeg)]) (rest := [.int x4_2, .ref (g.2.2 ((rl b) + 13))]) hC hS hl.1 (rX7_join hp) cwX7_65 ysX7_join rfl rfl (Nat.le_of_ble_eq_true rfl) (rmk (by decide) (by decide)) dX7_valueOf_221 (fun r_3 w_4 H locs hp hS => ?_)
    refine SaR_12 hC hS hp.1 dX7_valueOf_224 (fun w_5 H locs ew_5 hS => ?_)
    have hp := hp.2
    have hp := hp w_5 ew_5
    exact bX7_valueOf_225 hC hR hk56 x3 x4_2 x5 w_5 _ _ _ hp hS (lv_sub hl [1, 2, 3, 0, 4] rfl)
set_option maxHeartbeats 4000000 in
set_option maxRecDepth 100000 in
theorem bX7_valueOf_184 {p : Program} {l : Launch} {e : Env} {s : State} {m : MethodId} {args : Array Value} {below : List Frame} {meth : Method} {c : Code} {Q : State → Prop} {A : Nat → Prop} {g : Gw} {post : Int32 → Wd → Prop} {b : Bool} (hC : Cx p s m args c cX7_valueOf RX7 7 g) (hR : RtI tabX p l e (rk 2) s m args below meth c Q cX7_valueOf A g post)  {k56 : Int32 → Int32 → Int32 → Wd → Prop} (hk56 : ∀ (x3 : Int32) (x4 : Int32) (x5 : Int32) (w : Wd) (H : Heap) (locs : List Loc) (ls : Array Slot), k56 x3 x4 x5 w → St tabX A s.heap g w H locs → lv_has ls 7 [(0, .ref (g.2.2 (rl b))), (2, .ref (g.2.2 46)), (3, .int x3), (4, .int x4), (5, .int x5)] → W p l e (rk 2) s m args below meth c H locs 0 0 Q (F0 m 56 ls [])) : ∀ (x3 : Int32) (x4 : Int32) (x5 : Int32) (t1 : Int32) (t2 : Int32) (w : Wd) (H : Heap) (locs : List Loc) (ls : Array Slot), pX7_valueOf_184 k56 post b x3 x4 x5 t1 t2 w → St tabX A s.heap g w H locs → lv_has ls 7 [(0, .ref (g.2.2 (rl b))), (2, .ref (g.2.2 46)), (3, .int x3), (4, .int x4), (5, .int x5)] → W p l e (rk 2) s m args below meth c H locs 0 0 Q (F0 m 184 ls [.int t2, .int t1, .ref (g.2.2 ((rl b) + 13))]) := by
  have hx := hC.1
  have hb := hC.2.1
  intro x3 x4 x5 t1 t2 w H locs ls hp hS hl
  unfold pX7_valueOf_184 at hp
  refine SaR_12 hC hS hp.1 dX7_valueOf_184 (fun w_1 H locs ew_1 hS => ?_)
  have hp := hp.2
  have hp := hp w_1 ew_1
  refine lv_goto (tgt := 225) hx hb dX7_valueOf_185 (by decide) ?_
  exact bX7_valueOf_225 hC hR hk56 x3 x4 x5 w_1 _ _ _ hp hS (lv_sub hl [0, 1, 2, 3, 4] rfl)
set_option maxHeartbeats 4000000 in
set_option maxRecDepth 100000 in
theorem bX7_valueOf_151 {p : Program} {l : Launch} {e : Env} {s : State} {m : MethodId} {args : Array Value} {below : List Frame} {meth : Method} {c : Code} {Q : State → Prop} {A : Nat → Prop} {g : Gw} {post : Int32 → Wd → Prop} {b : Bool} (hC : Cx p s m args c cX7_valueOf RX7 7 g) (hR : RtI tabX p l e (rk 2) s m args below meth c Q cX7_valueOf A g post)  {k56 : Int32 → Int32 → Int32 → Wd → Prop} (hk56 : ∀ (x3 : Int32) (x4 : Int32) (x5 : Int32) (w : Wd) (H : Heap) (locs : List Loc) (ls : Array Slot), k56 x3 x4 x5 w → St tabX A s.heap g w H locs → lv_has ls 7 [(0, .ref (g.2.2 (rl b))), (2, .ref (g.2.2 46)), (3, .int x3), (4, .int x4), (5, .int x5)] → W p l e (rk 2) s m args below meth c H locs 0 0 Q (F0 m 56 ls [])) : ∀ (x3 : Int32) (x4 : Int32) (x5 : Int32) (x6 : Int32) (w : Wd) (H : Heap) (locs : List Loc) (ls : Array Slot), pX7_valueOf_151 k56 post b x3 x4 x5 x6 w → St tabX A s.heap g w H locs → lv_has ls 7 [(0, .ref (g.2.2 (rl b))), (2, .ref (g.2.2 46)), (3, .int x3), (4, .int x4), (5, .int x5), (6, .int x6)] → W p l e (rk 2) s m args below meth c H locs 0 0 Q (F0 m 151 ls []) := by
  have hx := hC.1
  have hb := hC.2.1
  intro x3 x4 x5 x6 w H locs ls hp hS hl
  unfold pX7_valueOf_151 at hp
  refine lv_iload hx hb dX7_valueOf_151 (lv_at hl 5 rfl) ?_
  refine lv_bipush hx hb dX7_valueOf_153 kB_16 ?_
  refine lv_icmp_ne (tgt := 188) hx hb dX7_valueOf_155 (by decide) (fun c_1 => ?_) (fun c_1 => ?_)
  · have hp := hp.1 c_1
    exact bX7_valueOf_188 hC hR hk56 x3 x4 x5 x6 w _ _ _ hp hS (lv_sub hl [0, 1, 2, 3, 4, 5] rfl)
  · have hp := hp.2 c_1
    refine lv_iload hx hb dX7_valueOf_158 (lv_at hl 3 rfl) ?_
    refine lv_if_lt (tgt := 188) hx hb dX7_valueOf_160 (by decide) (fun c_2 => ?_) (fun c_2 => ?_)
    · have hp := hp.1 c_2
      exact bX7_valueOf_188 hC hR hk56 x3 x4 x5 x6 w _ _ _ hp hS (lv_sub hl [0, 1, 2, 3, 4, 5] rfl)
    · have hp := hp.2 c_2
      refine lv_aload_n hx hb dX7_valueOf_163 rfl (lv_at hl 0 rfl) ?_
      refine GR_12 hC hS m132 dX7_valueOf_164 ?_
      refine lv_iload hx hb dX7_valueOf_167 (lv_at hl 3 rfl) ?_
      refine lv_aload_n hx hb dX7_valueOf_169 rfl (lv_at hl 0 rfl) ?_
      refine GR_12 hC hS m132 dX7_valueOf_170 ?_
      refine lv_iload hx hb dX7_valueOf_173 (lv_at hl 3 rfl) ?_
      refine LaR_12 hC hS hp.1 dX7_valueOf_175 ?_
      have hp := hp.2
      refine lv_if_ne (tgt := 183) hx hb dX7_valueOf_176 (by decide) (fun c_3 => ?_) (fun c_3 => ?_)
      · have hp := hp.1 c_3
        refine lv_iconst hx hb dX7_valueOf_183 kI_0 ?_
        exact bX7_valueOf_184 hC hR hk56 x3 x4 x5 x4 (0 : Int32) w _ _ _ hp hS (lv_sub hl [0, 1, 2, 3, 4] rfl)
      · have hp := hp.2 c_3
        refine lv_iconst hx hb dX7_valueOf_179 kI_1 ?_
        refine lv_goto (tgt := 184) hx hb dX7_valueOf_180 (by decide) ?_
        exact bX7_valueOf_184 hC hR hk56 x3 x4 x5 x4 (1 : Int32) w _ _ _ hp hS (lv_sub hl [0, 1, 2, 3, 4] rfl)
set_option maxHeartbeats 4000000 in
set_option maxRecDepth 100000 in
theorem bX7_valueOf_110 {p : Program} {l : Launch} {e : Env} {s : State} {m : MethodId} {args : Array Value} {below : List Frame} {meth : Method} {c : Code} {Q : State → Prop} {A : Nat → Prop} {g : Gw} {post : Int32 → Wd → Prop} {b : Bool} (hC : Cx p s m args c cX7_valueOf RX7 7 g) (hR : RtI tabX p l e (rk 2) s m args below meth c Q cX7_valueOf A g post)  {k56 : Int32 → Int32 → Int32 → Wd → Prop} (hk56 : ∀ (x3 : Int32) (x4 : Int32) (x5 : Int32) (w : Wd) (H : Heap) (locs : List Loc) (ls : Array Slot), k56 x3 x4 x5 w → St tabX A s.heap g w H locs → lv_has ls 7 [(0, .ref (g.2.2 (rl b))), (2, .ref (g.2.2 46)), (3, .int x3), (4, .int x4), (5, .int x5)] → W p l e (rk 2) s m args below meth c H locs 0 0 Q (F0 m 56 ls [])) : ∀ (x3 : Int32) (x4 : Int32) (x5 : Int32) (x6 : Int32) (w : Wd) (H : Heap) (locs : List Loc) (ls : Array Slot), pX7_valueOf_110 k56 post b x3 x4 x5 x6 w → St tabX A s.heap g w H locs → lv_has ls 7 [(0, .ref (g.2.2 (rl b))), (2, .ref (g.2.2 46)), (3, .int x3), (4, .int x4), (5, .int x5), (6, .int x6)] → W p l e (rk 2) s m args below meth c H locs 0 0 Q (F0 m 110 ls []) := by
  have hx := hC.1
  have hb := hC.2.1
  intro x3 x4 x5 x6 w H locs ls hp hS hl
  unfold pX7_valueOf_110 at hp
  refine lv_iload hx hb dX7_valueOf_110 (lv_at hl 5 rfl) ?_
  refine lv_if_lt (tgt := 151) hx hb dX7_valueOf_112 (by decide) (fun c_1 => ?_) (fun c_1 => ?_)
  · have hp := hp.1 c_1
    exact bX7_valueOf_151 hC hR hk56 x3 x4 x5 x6 w _ _ _ hp hS (lv_sub hl [0, 1, 2, 3, 4, 5] rfl)
  · have hp := hp.2 c_1
    refine lv_iload hx hb dX7_valueOf_115 (lv_at hl 5 rfl) ?_
    refine lv_aload_n hx hb dX7_valueOf_117 rfl (lv_at hl 1 rfl) ?_
    refine Na_46 hC hS dX7_valueOf_118 ?_
    refine lv_icmp_ge (tgt := 151) hx hb dX7_valueOf_119 (by decide) (fun c_2 => ?_) (fun c_2 => ?_)
    · have hp := hp.1 c_2
      exact bX7_valueOf_151 hC hR hk56 x3 x4 x5 x6 w _ _ _ hp hS (lv_sub hl [0, 1, 2, 3, 4, 5] rfl)
    · have hp := hp.2 c_2
      refine lv_iload hx hb dX7_valueOf_122 (lv_at hl 3 rfl) ?_
      refine lv_aload_n hx hb dX7_valueOf_124 rfl (lv_at hl 0 rfl) ?_
      refine GR_12 hC hS m132 dX7_valueOf_125 ?_
      refine NaR_12 hC hS dX7_valueOf_128 ?_
      refine lv_iconst hx hb dX7_valueOf_129 kI_1 ?_
      refine lv_isub hx hb dX7_valueOf_130 ?_
      refine lv_icmp_ge (tgt := 151) hx hb dX7_valueOf_131 (by decide) (fun c_3 => ?_) (fun c_3 => ?_)
      · have hp := hp.1 c_3
        exact bX7_valueOf_151 hC hR hk56 x3 x4 x5 x6 w _ _ _ hp hS (lv_sub hl [0, 1, 2, 3, 4, 5] rfl)
      · have hp := hp.2 c_3
        obtain ⟨x4_4, ex4_4⟩ : ∃ y : Int32, y = x4 + (1 : Int32) := ⟨_, rfl⟩
        have hp := hp x4_4 ex4_4
        refine lv_iinc (v := x4_4) (lv' := [(4, .int x4_4), (0, .ref (g.2.2 (rl b))), (2, .ref (g.2.2 46)), (3, .int x3), (5, .int x5), (6, .int x6)]) hx hb dX7_valueOf_134 hl (k := 3) rfl (by rw [ex4_4]; rfl) (by decide) rfl (fun ls hl => ?_)
        refine lv_aload_n hx hb dX7_valueOf_137 rfl (lv_at hl 1 rfl) ?_
        refine GR_12 hC hS m132 dX7_valueOf_138 ?_
        refine lv_iload hx hb dX7_valueOf_141 (lv_at hl 0 rfl) ?_
        refine lv_aload_n hx hb dX7_valueOf_143 rfl (lv_at hl 2 rfl) ?_
        refine lv_iload hx hb dX7_valueOf_144 (lv_at hl 5 rfl) ?_
        refine La_46 hC hS hp.1 dX7_valueOf_146 ?_
        have hp := hp.2
        refine SaR_12 hC hS hp.1 dX7_valueOf_147 (fun w_5 H locs ew_5 hS => ?_)
        have hp := hp.2
        have hp := hp w_5 ew_5
        refine lv_goto (tgt := 225) hx hb dX7_valueOf_148 (by decide) ?_
        exact bX7_valueOf_225 hC hR hk56 x3 x4_4 x5 w_5 _ _ _ hp hS (lv_sub hl [1, 2, 3, 0, 4] rfl)
set_option maxHeartbeats 4000000 in
set_option maxRecDepth 100000 in
theorem bX7_valueOf_56 {p : Program} {l : Launch} {e : Env} {s : State} {m : MethodId} {args : Array Value} {below : List Frame} {meth : Method} {c : Code} {Q : State → Prop} {A : Nat → Prop} {g : Gw} {post : Int32 → Wd → Prop} {b : Bool} (hC : Cx p s m args c cX7_valueOf RX7 7 g) (hR : RtI tabX p l e (rk 2) s m args below meth c Q cX7_valueOf A g post)  : ∀ (n : Nat) (x3 : Int32) (x4 : Int32) (x5 : Int32) (w : Wd) (H : Heap) (locs : List Loc) (ls : Array Slot), pX7_valueOf_56 post b n x3 x4 x5 w → St tabX A s.heap g w H locs → lv_has ls 7 [(0, .ref (g.2.2 (rl b))), (2, .ref (g.2.2 46)), (3, .int x3), (4, .int x4), (5, .int x5)] → W p l e (rk 2) s m args below meth c H locs 0 0 Q (F0 m 56 ls []) := by
  have hx := hC.1
  have hb := hC.2.1
  intro n
  induction n with
  | zero =>
    intro x3 x4 x5 w H locs ls hp hS hl
    exact False.elim hp
  | succ n ih =>
    intro x3 x4 x5 w H locs ls hp hS hl
    unfold pX7_valueOf_56 at hp
    refine lv_iload hx hb dX7_valueOf_56 (lv_at hl 4 rfl) ?_
    refine lv_iload_n hx hb dX7_valueOf_58 rfl (lv_at hl 2 rfl) ?_
    refine lv_icmp_ge (tgt := 231) hx hb dX7_valueOf_59 (by decide) (fun c_1 => ?_) (fun c_1 => ?_)
    · have hp := hp.1 c_1
      refine lv_iload hx hb dX7_valueOf_231 (lv_at hl 3 rfl) ?_
      refine lv_if_lt (tgt := 245) hx hb dX7_valueOf_233 (by decide) (fun c_2 => ?_) (fun c_2 => ?_)
      · have hp := hp.1 c_2
        refine lv_iconst hx hb dX7_valueOf_245 kI_0 ?_
        exact hR _ _ _ _ _ _ dX7_valueOf_246 hp hS
      · have hp := hp.2 c_2
        refine lv_aload_n hx hb dX7_valueOf_236 rfl (lv_at hl 0 rfl) ?_
        refine GR_12 hC hS m132 dX7_valueOf_237 ?_
        refine lv_iconst hx hb dX7_valueOf_240 kI_0 ?_
        refine LaR_12 hC hS (by unfold vp_in; decide) dX7_valueOf_241 ?_
        refine lv_goto (tgt := 246) hx hb dX7_valueOf_242 (by decide) ?_
        exact hR _ _ _ _ _ _ dX7_valueOf_246 hp hS
    · have hp := hp.2 c_1
      refine lv_aload_n hx hb dX7_valueOf_62 rfl (lv_at hl 0 rfl) ?_
      refine GR_8 hC hS m130 dX7_valueOf_63 ?_
      refine lv_iload hx hb dX7_valueOf_66 (lv_at hl 4 rfl) ?_
      refine LaR_8 hC hS hp.1 dX7_valueOf_68 ?_
      have hp := hp.2
      refine lv_topi (fun x6_3 ex6_3 => ?_)
      have hp := hp x6_3 ex6_3
      refine lv_istore (lv' := [(6, .int x6_3), (0, .ref (g.2.2 (rl b))), (2, .ref (g.2.2 46)), (3, .int x3), (4, .int x4), (5, .int x5)]) hx hb dX7_valueOf_69 hl (by decide) rfl (fun ls hl => ?_)
      refine lv_iload hx hb dX7_valueOf_71 (lv_at hl 0 rfl) ?_
      refine lv_sipush hx hb dX7_valueOf_73 kS_128 ?_
      refine lv_icmp_lt (tgt := 110) hx hb dX7_valueOf_76 (by decide) (fun c_4 => ?_) (fun c_4 => ?_)
      · have hp := hp.1 c_4
        exact bX7_valueOf_110 hC hR ih x3 x4 x5 x6_3 w _ _ _ hp hS (lv_sub hl [1, 2, 3, 4, 5, 0] rfl)
      · have hp := hp.2 c_4
        refine lv_iload hx hb dX7_valueOf_79 (lv_at hl 4 rfl) ?_
        refine lv_aload_n hx hb dX7_valueOf_81 rfl (lv_at hl 1 rfl) ?_
        refine GR_12 hC hS m132 dX7_valueOf_82 ?_
        refine NaR_12 hC hS dX7_valueOf_85 ?_
        refine lv_iconst hx hb dX7_valueOf_86 kI_1 ?_
        refine lv_isub hx hb dX7_valueOf_87 ?_
        refine lv_icmp_ge (tgt := 110) hx hb dX7_valueOf_88 (by decide) (fun c_5 => ?_) (fun c_5 => ?_)
        · have hp := hp.1 c_5
          exact bX7_valueOf_110 hC hR ih x3 x4 x5 x6_3 w _ _ _ hp hS (lv_sub hl [1, 2, 3, 4, 5, 0] rfl)
        · have hp := hp.2 c_5
          obtain ⟨x4_6, ex4_6⟩ : ∃ y : Int32, y = x4 + (1 : Int32) := ⟨_, rfl⟩
          have hp := hp x4_6 ex4_6
          refine lv_iinc (v := x4_6) (lv' := [(4, .int x4_6), (6, .int x6_3), (0, .ref (g.2.2 (rl b))), (2, .ref (g.2.2 46)), (3, .int x3), (5, .int x5)]) hx hb dX7_valueOf_91 hl (k := 4) rfl (by rw [ex4_6]; rfl) (by decide) rfl (fun ls hl => ?_)
          refine lv_aload_n hx hb dX7_valueOf_94 rfl (lv_at hl 2 rfl) ?_
          refine GR_12 hC hS m132 dX7_valueOf_95 ?_
          refine lv_iload hx hb dX7_valueOf_98 (lv_at hl 0 rfl) ?_
          refine lv_iload hx hb dX7_valueOf_100 (lv_at hl 1 rfl) ?_
          refine lv_sipush hx hb dX7_valueOf_102 kS_128 ?_
          refine lv_isub hx hb dX7_valueOf_105 ?_
          refine SaR_12 hC hS hp.1 dX7_valueOf_106 (fun w_7 H locs ew_7 hS => ?_)
          have hp := hp.2
          have hp := hp w_7 ew_7
          refine lv_goto (tgt := 225) hx hb dX7_valueOf_107 (by decide) ?_
          exact bX7_valueOf_225 hC hR ih x3 x4_6 x5 w_7 _ _ _ hp hS (lv_sub hl [2, 3, 4, 0, 5] rfl)
set_option maxHeartbeats 4000000 in
set_option maxRecDepth 100000 in
theorem rX7_valueOf {l : Launch} {g : Gw} {w : Wd} {post : Int32 → Wd → Prop} {b : Bool}  {x1 : Int32} (hp : pX7_valueOf post b x1 w) : MtI tabX l yX7_valueOf cX7_valueOf 7 (some .int) 2 g w [.ref (g.2.2 (rl b)), .int x1, .ref (g.2.2 46)] post := by
  refine q_entI tabX_nd (by decide) rfl (Nat.le_of_ble_eq_true rfl) ?_
  intro p e s m args below meth c A Q ls hC hR hS hl
  have hx := hC.1
  have hb := hC.2.1
  have hl : lv_has ls 7 [(0, .ref (g.2.2 (rl b))), (1, .int x1), (2, .ref (g.2.2 46))] := hl
  unfold pX7_valueOf at hp
  refine lv_iload_n hx hb dX7_valueOf_0 rfl (lv_at hl 1 rfl) ?_
  refine lv_if_lt (tgt := 23) hx hb dX7_valueOf_1 (by decide) (fun c_1 => ?_) (fun c_1 => ?_)
  · have hp := hp.1 c_1
    refine lv_iconst hx hb dX7_valueOf_23 kI_0 ?_
    exact hR _ _ _ _ _ _ dX7_valueOf_24 hp hS
  · have hp := hp.2 c_1
    refine lv_iload_n hx hb dX7_valueOf_4 rfl (lv_at hl 1 rfl) ?_
    refine lv_aload_n hx hb dX7_valueOf_5 rfl (lv_at hl 0 rfl) ?_
    refine GR_11 hC hS m144 dX7_valueOf_6 ?_
    refine lv_icmp_ge (tgt := 23) hx hb dX7_valueOf_9 (by decide) (fun c_2 => ?_) (fun c_2 => ?_)
    · have hp := hp.1 c_2
      refine lv_iconst hx hb dX7_valueOf_23 kI_0 ?_
      exact hR _ _ _ _ _ _ dX7_valueOf_24 hp hS
    · have hp := hp.2 c_2
      refine lv_iload_n hx hb dX7_valueOf_12 rfl (lv_at hl 1 rfl) ?_
      refine lv_aload_n hx hb dX7_valueOf_13 rfl (lv_at hl 0 rfl) ?_
      refine GR_10 hC hS m131 dX7_valueOf_14 ?_
      refine NaR_10 hC hS dX7_valueOf_17 ?_
      refine lv_iconst hx hb dX7_valueOf_18 kI_1 ?_
      refine lv_isub hx hb dX7_valueOf_19 ?_
      refine lv_icmp_lt (tgt := 25) hx hb dX7_valueOf_20 (by decide) (fun c_3 => ?_) (fun c_3 => ?_)
      · have hp := hp.1 c_3
        refine lv_aload_n hx hb dX7_valueOf_25 rfl (lv_at hl 0 rfl) ?_
        refine GR_10 hC hS m131 dX7_valueOf_26 ?_
        refine lv_iload_n hx hb dX7_valueOf_29 rfl (lv_at hl 1 rfl) ?_
        refine lv_iconst hx hb dX7_valueOf_30 kI_1 ?_
        refine lv_iadd hx hb dX7_valueOf_31 ?_
        refine LaR_10 hC hS hp.1 dX7_valueOf_32 ?_
        have hp := hp.2
        refine lv_aload_n hx hb dX7_valueOf_33 rfl (lv_at hl 0 rfl) ?_
        refine GR_9 hC hS m143 dX7_valueOf_34 ?_
        refine q_min hC hl.1 m738 m347 m348 m349 (rmm (by decide) (Nat.le_of_ble_eq_true rfl)) dX7_valueOf_37 ?_
        refine lv_topi (fun x3_4 ex3_4 => ?_)
        have hp := hp x3_4 ex3_4
        refine lv_istore_n (lv' := [(3, .int x3_4), (0, .ref (g.2.2 (rl b))), (1, .int x1), (2, .ref (g.2.2 46))]) hx hb dX7_valueOf_40 rfl hl (by decide) rfl (fun ls hl => ?_)
        refine lv_iconst hx hb dX7_valueOf_41 kI_m1 ?_
        refine lv_istore (lv' := [(4, .int (-1 : Int32)), (3, .int x3_4), (0, .ref (g.2.2 (rl b))), (1, .int x1), (2, .ref (g.2.2 46))]) hx hb dX7_valueOf_42 hl (by decide) rfl (fun ls hl => ?_)
        refine lv_aload_n hx hb dX7_valueOf_44 rfl (lv_at hl 2 rfl) ?_
        refine GR_10 hC hS m131 dX7_valueOf_45 ?_
        refine lv_iload_n hx hb dX7_valueOf_48 rfl (lv_at hl 3 rfl) ?_
        refine LaR_10 hC hS hp.1 dX7_valueOf_49 ?_
        have hp := hp.2
        refine lv_iconst hx hb dX7_valueOf_50 kI_0 ?_
        refine q_max hC hl.1 m739 m728 m348 m729 (rmm (by decide) (Nat.le_of_ble_eq_true rfl)) dX7_valueOf_51 ?_
        refine lv_topi (fun x5_5 ex5_5 => ?_)
        have hp := hp x5_5 ex5_5
        refine lv_istore (lv' := [(5, .int x5_5), (4, .int (-1 : Int32)), (3, .int x3_4), (0, .ref (g.2.2 (rl b))), (1, .int x1), (2, .ref (g.2.2 46))]) hx hb dX7_valueOf_54 hl (by decide) rfl (fun ls hl => ?_)
        obtain ⟨n9, hp⟩ := hp
        exact bX7_valueOf_56 hC hR n9 x3_4 (-1 : Int32) x5_5 w _ _ _ hp hS (lv_sub hl [3, 5, 2, 1, 0] rfl)
      · have hp := hp.2 c_3
        refine lv_iconst hx hb dX7_valueOf_23 kI_0 ?_
        exact hR _ _ _ _ _ _ dX7_valueOf_24 hp hS
def pX1_learn_97 (post : Wd → Prop) (x2 : Int32) (x3 : Int32) (x4 : Int32) (t0 : Int32) (w : Wd) : Prop := ∀ x6_1, x6_1 = (x2 + x3) → (x6_1 < 0 → (post w)) ∧ (¬ x6_1 < 0 → (((4160 : Int32) ≤ x6_1 → (post w)) ∧ (¬ (4160 : Int32) ≤ x6_1 → (vp_in x6_1 4160 ∧ vp_in x6_1 4160 ∧ ∀ w_4, w_4 = sA w 43 x6_1.toNatClampNeg ((w.2.1 43 x6_1.toNatClampNeg) ||| ((1 : Int32) <<< (x4 &&& 31))) → vp_in x6_1 4160 ∧ (t0 = 0 → (vp_in x6_1 4160 ∧ ∀ w_6, w_6 = sA w_4 44 x6_1.toNatClampNeg ((w_4.2.1 44 x6_1.toNatClampNeg) ||| (0 : Int32)) → post w_6)) ∧ (¬ t0 = 0 → (vp_in x6_1 4160 ∧ ∀ w_7, w_7 = sA w_4 44 x6_1.toNatClampNeg ((w_4.2.1 44 x6_1.toNatClampNeg) ||| ((1 : Int32) <<< (x4 &&& 31))) → post w_7))))))
def pX1_learn (post : Wd → Prop) (x1 : Int32) (x2 : Int32) (x3 : Int32) (x4 : Int32) (w : Wd) : Prop := ∀ w_1, w_1 = sA w 46 (0 : Int32).toNatClampNeg x4 → ∀ w_2, w_2 = sA w_1 46 (2 : Int32).toNatClampNeg (x3 &&& (1 : Int32)) → ∀ w_3, w_3 = sA w_2 46 (1 : Int32).toNatClampNeg ((x3 >>> ((1 : Int32) &&& 31)) &&& (1 : Int32)) → ∀ w_4, w_4 = sA w_3 46 (3 : Int32).toNatClampNeg ((x3 >>> ((2 : Int32) &&& 31)) &&& (1 : Int32)) → ((w_4.2.1 46 (1 : Int32).toNatClampNeg) = 0 → (pX7_valueOf (fun r_6 w_7 => (r_6 = 0 → (pX1_learn_97 post x2 x3 x4 (0 : Int32) w_7)) ∧ (¬ r_6 = 0 → (pX1_learn_97 post x2 x3 x4 (1 : Int32) w_7))) (w_4.2.2.2.2 3) (((2 : Int32) * x1) + (1 : Int32)) w_4)) ∧ (¬ (w_4.2.1 46 (1 : Int32).toNatClampNeg) = 0 → (pX7_valueOf (fun r_9 w_10 => (¬ r_9 = 0 → (pX1_learn_97 post x2 x3 x4 (0 : Int32) w_10)) ∧ (r_9 = 0 → (pX1_learn_97 post x2 x3 x4 (1 : Int32) w_10))) (w_4.2.2.2.2 3) ((2 : Int32) * x1) w_4))
set_option maxHeartbeats 4000000 in
set_option maxRecDepth 100000 in
theorem bX1_learn_97 {p : Program} {l : Launch} {e : Env} {s : State} {m : MethodId} {args : Array Value} {below : List Frame} {meth : Method} {c : Code} {Q : State → Prop} {A : Nat → Prop} {g : Gw} {post : Wd → Prop}  (hC : Cx p s m args c cX1_learn RX1 7 g) (hR : RtV tabX p l e (rk 3) s m args below meth c Q cX1_learn A g post)  : ∀ (x2 : Int32) (x3 : Int32) (x4 : Int32) (t0 : Int32) (w : Wd) (H : Heap) (locs : List Loc) (ls : Array Slot), pX1_learn_97 post x2 x3 x4 t0 w → St tabX A s.heap g w H locs → lv_has ls 7 [(0, .ref (g.2.2 40)), (2, .int x2), (3, .int x3), (4, .int x4)] → W p l e (rk 3) s m args below meth c H locs 0 0 Q (F0 m 97 ls [.int t0]) := by
  have hx := hC.1
  have hb := hC.2.1
  intro x2 x3 x4 t0 w H locs ls hp hS hl
  unfold pX1_learn_97 at hp
  refine lv_istore (lv' := [(5, .int t0), (0, .ref (g.2.2 40)), (2, .int x2), (3, .int x3), (4, .int x4)]) hx hb dX1_learn_97 hl (by decide) rfl (fun ls hl => ?_)
  refine lv_iload_n hx hb dX1_learn_99 rfl (lv_at hl 2 rfl) ?_
  refine lv_iload_n hx hb dX1_learn_100 rfl (lv_at hl 3 rfl) ?_
  refine lv_iadd hx hb dX1_learn_101 ?_
  refine lv_topi (fun x6_1 ex6_1 => ?_)
  have hp := hp x6_1 ex6_1
  refine lv_istore (lv' := [(6, .int x6_1), (5, .int t0), (0, .ref (g.2.2 40)), (2, .int x2), (3, .int x3), (4, .int x4)]) hx hb dX1_learn_102 hl (by decide) rfl (fun ls hl => ?_)
  refine lv_iload hx hb dX1_learn_104 (lv_at hl 0 rfl) ?_
  refine lv_if_lt (tgt := 156) hx hb dX1_learn_106 (by decide) (fun c_2 => ?_) (fun c_2 => ?_)
  · have hp := hp.1 c_2
    exact hR _ _ _ _ _ dX1_learn_156 hp hS
  · have hp := hp.2 c_2
    refine lv_iload hx hb dX1_learn_109 (lv_at hl 0 rfl) ?_
    refine lv_aload_n hx hb dX1_learn_111 rfl (lv_at hl 2 rfl) ?_
    refine G_40_2 hC hS m169 dX1_learn_112 ?_
    refine Na_43 hC hS dX1_learn_115 ?_
    refine lv_icmp_ge (tgt := 156) hx hb dX1_learn_116 (by decide) (fun c_3 => ?_) (fun c_3 => ?_)
    · have hp := hp.1 c_3
      exact hR _ _ _ _ _ dX1_learn_156 hp hS
    · have hp := hp.2 c_3
      refine lv_aload_n hx hb dX1_learn_119 rfl (lv_at hl 2 rfl) ?_
      refine G_40_2 hC hS m169 dX1_learn_120 ?_
      refine lv_iload hx hb dX1_learn_123 (lv_at hl 0 rfl) ?_
      refine lv_dup2_11 hx hb dX1_learn_125 rfl rfl ?_
      refine La_43 hC hS hp.1 dX1_learn_126 ?_
      have hp := hp.2
      refine lv_iconst hx hb dX1_learn_127 kI_1 ?_
      refine lv_iload hx hb dX1_learn_128 (lv_at hl 5 rfl) ?_
      refine lv_ishl hx hb dX1_learn_130 ?_
      refine lv_ior hx hb dX1_learn_131 ?_
      refine Sa_43 hC hS hp.1 dX1_learn_132 (fun w_4 H locs ew_4 hS => ?_)
      have hp := hp.2
      have hp := hp w_4 ew_4
      refine lv_aload_n hx hb dX1_learn_133 rfl (lv_at hl 2 rfl) ?_
      refine G_40_3 hC hS m170 dX1_learn_134 ?_
      refine lv_iload hx hb dX1_learn_137 (lv_at hl 0 rfl) ?_
      refine lv_dup2_11 hx hb dX1_learn_139 rfl rfl ?_
      refine La_44 hC hS hp.1 dX1_learn_140 ?_
      have hp := hp.2
      refine lv_iload hx hb dX1_learn_141 (lv_at hl 1 rfl) ?_
      refine lv_if_eq (tgt := 153) hx hb dX1_learn_143 (by decide) (fun c_5 => ?_) (fun c_5 => ?_)
      · have hp := hp.1 c_5
        refine lv_iconst hx hb dX1_learn_153 kI_0 ?_
        refine lv_ior hx hb dX1_learn_154 ?_
        refine Sa_44 hC hS hp.1 dX1_learn_155 (fun w_6 H locs ew_6 hS => ?_)
        have hp := hp.2
        have hp := hp w_6 ew_6
        exact hR _ _ _ _ _ dX1_learn_156 hp hS
      · have hp := hp.2 c_5
        refine lv_iconst hx hb dX1_learn_146 kI_1 ?_
        refine lv_iload hx hb dX1_learn_147 (lv_at hl 5 rfl) ?_
        refine lv_ishl hx hb dX1_learn_149 ?_
        refine lv_goto (tgt := 154) hx hb dX1_learn_150 (by decide) ?_
        refine lv_ior hx hb dX1_learn_154 ?_
        refine Sa_44 hC hS hp.1 dX1_learn_155 (fun w_7 H locs ew_7 hS => ?_)
        have hp := hp.2
        have hp := hp w_7 ew_7
        exact hR _ _ _ _ _ dX1_learn_156 hp hS
set_option maxHeartbeats 4000000 in
set_option maxRecDepth 100000 in
theorem rX1_learn {l : Launch} {g : Gw} {w : Wd} {post : Wd → Prop}   {x1 : Int32} {x2 : Int32} {x3 : Int32} {x4 : Int32} (hp : pX1_learn post x1 x2 x3 x4 w) : MtV tabX l yX1_learn cX1_learn 7 none 3 g w [.ref (g.2.2 40), .int x1, .int x2, .int x3, .int x4] post := by
  refine q_entV tabX_nd (by decide) rfl (Nat.le_of_ble_eq_true rfl) ?_
  intro p e s m args below meth c A Q ls hC hR hS hl
  have hx := hC.1
  have hb := hC.2.1
  have hl : lv_has ls 7 [(0, .ref (g.2.2 40)), (1, .int x1), (2, .int x2), (3, .int x3), (4, .int x4)] := hl
  unfold pX1_learn at hp
  refine lv_aload_n hx hb dX1_learn_0 rfl (lv_at hl 0 rfl) ?_
  refine G_40_5 hC hS m172 dX1_learn_1 ?_
  refine lv_iconst hx hb dX1_learn_4 kI_0 ?_
  refine lv_iload hx hb dX1_learn_5 (lv_at hl 4 rfl) ?_
  refine Sa_46 hC hS (by unfold vp_in; decide) dX1_learn_7 (fun w_1 H locs ew_1 hS => ?_)
  have hp := hp w_1 ew_1
  refine lv_aload_n hx hb dX1_learn_8 rfl (lv_at hl 0 rfl) ?_
  refine G_40_5 hC hS m172 dX1_learn_9 ?_
  refine lv_iconst hx hb dX1_learn_12 kI_2 ?_
  refine lv_iload_n hx hb dX1_learn_13 rfl (lv_at hl 3 rfl) ?_
  refine lv_iconst hx hb dX1_learn_14 kI_1 ?_
  refine lv_iand hx hb dX1_learn_15 ?_
  refine Sa_46 hC hS (by unfold vp_in; decide) dX1_learn_16 (fun w_2 H locs ew_2 hS => ?_)
  have hp := hp w_2 ew_2
  refine lv_aload_n hx hb dX1_learn_17 rfl (lv_at hl 0 rfl) ?_
  refine G_40_5 hC hS m172 dX1_learn_18 ?_
  refine lv_iconst hx hb dX1_learn_21 kI_1 ?_
  refine lv_iload_n hx hb dX1_learn_22 rfl (lv_at hl 3 rfl) ?_
  refine lv_iconst hx hb dX1_learn_23 kI_1 ?_
  refine lv_ishr hx hb dX1_learn_24 ?_
  refine lv_iconst hx hb dX1_learn_25 kI_1 ?_
  refine lv_iand hx hb dX1_learn_26 ?_
  refine Sa_46 hC hS (by unfold vp_in; decide) dX1_learn_27 (fun w_3 H locs ew_3 hS => ?_)
  have hp := hp w_3 ew_3
  refine lv_aload_n hx hb dX1_learn_28 rfl (lv_at hl 0 rfl) ?_
  refine G_40_5 hC hS m172 dX1_learn_29 ?_
  refine lv_iconst hx hb dX1_learn_32 kI_3 ?_
  refine lv_iload_n hx hb dX1_learn_33 rfl (lv_at hl 3 rfl) ?_
  refine lv_iconst hx hb dX1_learn_34 kI_2 ?_
  refine lv_ishr hx hb dX1_learn_35 ?_
  refine lv_iconst hx hb dX1_learn_36 kI_1 ?_
  refine lv_iand hx hb dX1_learn_37 ?_
  refine Sa_46 hC hS (by unfold vp_in; decide) dX1_learn_38 (fun w_4 H locs ew_4 hS => ?_)
  have hp := hp w_4 ew_4
  refine lv_aload_n hx hb dX1_learn_39 rfl (lv_at hl 0 rfl) ?_
  refine G_40_5 hC hS m172 dX1_learn_40 ?_
  refine lv_iconst hx hb dX1_learn_43 kI_1 ?_
  refine La_46 hC hS (by unfold vp_in; decide) dX1_learn_44 ?_
  refine lv_if_eq (tgt := 73) hx hb dX1_learn_45 (by decide) (fun c_5 => ?_) (fun c_5 => ?_)
  · have hp := hp.1 c_5
    refine lv_aload_n hx hb dX1_learn_73 rfl (lv_at hl 0 rfl) ?_
    refine G_40_1 hC hS m168 dX1_learn_74 ?_
    refine lv_iconst hx hb dX1_learn_77 kI_2 ?_
    refine lv_iload_n hx hb dX1_learn_78 rfl (lv_at hl 1 rfl) ?_
    refine lv_imul hx hb dX1_learn_79 ?_
    refine lv_iconst hx hb dX1_learn_80 kI_1 ?_
    refine lv_iadd hx hb dX1_learn_81 ?_
    refine lv_aload_n hx hb dX1_learn_82 rfl (lv_at hl 0 rfl) ?_
    refine G_40_5 hC hS m172 dX1_learn_83 ?_
    refine q_cvI (As := [.int (((2 : Int32) * x1) + (1 : Int32)), .ref (g.2.2 46)]) (rest := []) hC hS hl.1 (rX7_valueOf hp) cwX1_81 yvX7_valueOf (rcvR hC hS) rfl rfl (Nat.le_of_ble_eq_true rfl) (rmk (by decide) (by decide)) dX1_learn_86 (fun r_6 w_7 H locs hp hS => ?_)
    refine lv_if_eq (tgt := 96) hx hb dX1_learn_89 (by decide) (fun c_8 => ?_) (fun c_8 => ?_)
    · have hp := hp.1 c_8
      refine lv_iconst hx hb dX1_learn_96 kI_0 ?_
      exact bX1_learn_97 hC hR x2 x3 x4 (0 : Int32) w_7 _ _ _ hp hS (lv_sub hl [0, 2, 3, 4] rfl)
    · have hp := hp.2 c_8
      refine lv_iconst hx hb dX1_learn_92 kI_1 ?_
      refine lv_goto (tgt := 97) hx hb dX1_learn_93 (by decide) ?_
      exact bX1_learn_97 hC hR x2 x3 x4 (1 : Int32) w_7 _ _ _ hp hS (lv_sub hl [0, 2, 3, 4] rfl)
  · have hp := hp.2 c_5
    refine lv_aload_n hx hb dX1_learn_48 rfl (lv_at hl 0 rfl) ?_
    refine G_40_1 hC hS m168 dX1_learn_49 ?_
    refine lv_iconst hx hb dX1_learn_52 kI_2 ?_
    refine lv_iload_n hx hb dX1_learn_53 rfl (lv_at hl 1 rfl) ?_
    refine lv_imul hx hb dX1_learn_54 ?_
    refine lv_aload_n hx hb dX1_learn_55 rfl (lv_at hl 0 rfl) ?_
    refine G_40_5 hC hS m172 dX1_learn_56 ?_
    refine q_cvI (As := [.int ((2 : Int32) * x1), .ref (g.2.2 46)]) (rest := []) hC hS hl.1 (rX7_valueOf hp) cwX1_81 yvX7_valueOf (rcvR hC hS) rfl rfl (Nat.le_of_ble_eq_true rfl) (rmk (by decide) (by decide)) dX1_learn_59 (fun r_9 w_10 H locs hp hS => ?_)
    refine lv_if_ne (tgt := 69) hx hb dX1_learn_62 (by decide) (fun c_11 => ?_) (fun c_11 => ?_)
    · have hp := hp.1 c_11
      refine lv_iconst hx hb dX1_learn_69 kI_0 ?_
      refine lv_goto (tgt := 97) hx hb dX1_learn_70 (by decide) ?_
      exact bX1_learn_97 hC hR x2 x3 x4 (0 : Int32) w_10 _ _ _ hp hS (lv_sub hl [0, 2, 3, 4] rfl)
    · have hp := hp.2 c_11
      refine lv_iconst hx hb dX1_learn_65 kI_1 ?_
      refine lv_goto (tgt := 97) hx hb dX1_learn_66 (by decide) ?_
      exact bX1_learn_97 hC hR x2 x3 x4 (1 : Int32) w_10 _ _ _ hp hS (lv_sub hl [0, 2, 3, 4] rfl)
def pX1_forget_6 (post : Wd → Prop) : Nat → Int32 → Int32 → Int32 → Wd → Prop
  | 0, _, _, _, _ => False
  | n + 1, x1, x2, x3, w => ((x1 + x2) ≤ x3 → (post w)) ∧ (¬ (x1 + x2) ≤ x3 → (((4160 : Int32) ≤ x3 → (post w)) ∧ (¬ (4160 : Int32) ≤ x3 → (vp_in x3 4160 ∧ ∀ w_3, w_3 = sA w 43 x3.toNatClampNeg (0 : Int32) → vp_in x3 4160 ∧ ∀ w_4, w_4 = sA w_3 44 x3.toNatClampNeg (0 : Int32) → ∀ x3_5, x3_5 = x3 + (1 : Int32) → pX1_forget_6 post n x1 x2 x3_5 w_4))))
def pX1_forget (post : Wd → Prop) (x1 : Int32) (x2 : Int32) (w : Wd) : Prop := ∀ x3_1, x3_1 = (if x1 < (0 : Int32) then (0 : Int32) else x1) → ∃ n9, pX1_forget_6 post n9 x1 x2 x3_1 w
set_option maxHeartbeats 4000000 in
set_option maxRecDepth 100000 in
theorem bX1_forget_6 {p : Program} {l : Launch} {e : Env} {s : State} {m : MethodId} {args : Array Value} {below : List Frame} {meth : Method} {c : Code} {Q : State → Prop} {A : Nat → Prop} {g : Gw} {post : Wd → Prop}  (hC : Cx p s m args c cX1_forget RX1 4 g) (hR : RtV tabX p l e (rk 1) s m args below meth c Q cX1_forget A g post)  : ∀ (n : Nat) (x1 : Int32) (x2 : Int32) (x3 : Int32) (w : Wd) (H : Heap) (locs : List Loc) (ls : Array Slot), pX1_forget_6 post n x1 x2 x3 w → St tabX A s.heap g w H locs → lv_has ls 4 [(0, .ref (g.2.2 40)), (1, .int x1), (2, .int x2), (3, .int x3)] → W p l e (rk 1) s m args below meth c H locs 0 0 Q (F0 m 6 ls []) := by
  have hx := hC.1
  have hb := hC.2.1
  intro n
  induction n with
  | zero =>
    intro x1 x2 x3 w H locs ls hp hS hl
    exact False.elim hp
  | succ n ih =>
    intro x1 x2 x3 w H locs ls hp hS hl
    unfold pX1_forget_6 at hp
    refine lv_iload_n hx hb dX1_forget_6 rfl (lv_at hl 3 rfl) ?_
    refine lv_iload_n hx hb dX1_forget_7 rfl (lv_at hl 1 rfl) ?_
    refine lv_iload_n hx hb dX1_forget_8 rfl (lv_at hl 2 rfl) ?_
    refine lv_iadd hx hb dX1_forget_9 ?_
    refine lv_icmp_ge (tgt := 42) hx hb dX1_forget_10 (by decide) (fun c_1 => ?_) (fun c_1 => ?_)
    · have hp := hp.1 c_1
      exact hR _ _ _ _ _ dX1_forget_42 hp hS
    · have hp := hp.2 c_1
      refine lv_iload_n hx hb dX1_forget_13 rfl (lv_at hl 3 rfl) ?_
      refine lv_aload_n hx hb dX1_forget_14 rfl (lv_at hl 0 rfl) ?_
      refine G_40_2 hC hS m169 dX1_forget_15 ?_
      refine Na_43 hC hS dX1_forget_18 ?_
      refine lv_icmp_ge (tgt := 42) hx hb dX1_forget_19 (by decide) (fun c_2 => ?_) (fun c_2 => ?_)
      · have hp := hp.1 c_2
        exact hR _ _ _ _ _ dX1_forget_42 hp hS
      · have hp := hp.2 c_2
        refine lv_aload_n hx hb dX1_forget_22 rfl (lv_at hl 0 rfl) ?_
        refine G_40_2 hC hS m169 dX1_forget_23 ?_
        refine lv_iload_n hx hb dX1_forget_26 rfl (lv_at hl 3 rfl) ?_
        refine lv_iconst hx hb dX1_forget_27 kI_0 ?_
        refine Sa_43 hC hS hp.1 dX1_forget_28 (fun w_3 H locs ew_3 hS => ?_)
        have hp := hp.2
        have hp := hp w_3 ew_3
        refine lv_aload_n hx hb dX1_forget_29 rfl (lv_at hl 0 rfl) ?_
        refine G_40_3 hC hS m170 dX1_forget_30 ?_
        refine lv_iload_n hx hb dX1_forget_33 rfl (lv_at hl 3 rfl) ?_
        refine lv_iconst hx hb dX1_forget_34 kI_0 ?_
        refine Sa_44 hC hS hp.1 dX1_forget_35 (fun w_4 H locs ew_4 hS => ?_)
        have hp := hp.2
        have hp := hp w_4 ew_4
        obtain ⟨x3_5, ex3_5⟩ : ∃ y : Int32, y = x3 + (1 : Int32) := ⟨_, rfl⟩
        have hp := hp x3_5 ex3_5
        refine lv_iinc (v := x3_5) (lv' := [(3, .int x3_5), (0, .ref (g.2.2 40)), (1, .int x1), (2, .int x2)]) hx hb dX1_forget_36 hl (k := 3) rfl (by rw [ex3_5]; rfl) (by decide) rfl (fun ls hl => ?_)
        refine lv_goto (tgt := 6) hx hb dX1_forget_39 (by decide) ?_
        exact ih x1 x2 x3_5 w_4 _ _ _ hp hS (lv_sub hl [1, 2, 3, 0] rfl)
set_option maxHeartbeats 4000000 in
set_option maxRecDepth 100000 in
theorem rX1_forget {l : Launch} {g : Gw} {w : Wd} {post : Wd → Prop}   {x1 : Int32} {x2 : Int32} (hp : pX1_forget post x1 x2 w) : MtV tabX l yX1_forget cX1_forget 4 none 1 g w [.ref (g.2.2 40), .int x1, .int x2] post := by
  refine q_entV tabX_nd (by decide) rfl (Nat.le_of_ble_eq_true rfl) ?_
  intro p e s m args below meth c A Q ls hC hR hS hl
  have hx := hC.1
  have hb := hC.2.1
  have hl : lv_has ls 4 [(0, .ref (g.2.2 40)), (1, .int x1), (2, .int x2)] := hl
  unfold pX1_forget at hp
  refine lv_iload_n hx hb dX1_forget_0 rfl (lv_at hl 1 rfl) ?_
  refine lv_iconst hx hb dX1_forget_1 kI_0 ?_
  refine q_max hC hl.1 m727 m728 m348 m729 (rmm (by decide) (Nat.le_of_ble_eq_true rfl)) dX1_forget_2 ?_
  refine lv_topi (fun x3_1 ex3_1 => ?_)
  have hp := hp x3_1 ex3_1
  refine lv_istore_n (lv' := [(3, .int x3_1), (0, .ref (g.2.2 40)), (1, .int x1), (2, .int x2)]) hx hb dX1_forget_5 rfl hl (by decide) rfl (fun ls hl => ?_)
  obtain ⟨n9, hp⟩ := hp
  exact bX1_forget_6 hC hR n9 x1 x2 x3_1 w _ _ _ hp hS (lv_sub hl [1, 2, 3, 0] rfl)
def pX7_isUsed (post : Int32 → Wd → Prop) (b : Bool) (x1 : Int32) (x2 : Int32) (w : Wd) : Prop := (x1 < 0 → (post (0 : Int32) w)) ∧ (¬ x1 < 0 → (((4 : Int32) ≤ x1 → (post (0 : Int32) w)) ∧ (¬ (4 : Int32) ≤ x1 → (vp_in x1 4 ∧ ((((w.2.1 ((rl b) + 8) x1.toNatClampNeg) >>> (x2 &&& 31)) &&& (1 : Int32)) = 0 → (post (0 : Int32) w)) ∧ (¬ (((w.2.1 ((rl b) + 8) x1.toNatClampNeg) >>> (x2 &&& 31)) &&& (1 : Int32)) = 0 → (post (1 : Int32) w))))))
set_option maxHeartbeats 4000000 in
set_option maxRecDepth 100000 in
theorem rX7_isUsed {l : Launch} {g : Gw} {w : Wd} {post : Int32 → Wd → Prop} {b : Bool}  {x1 : Int32} {x2 : Int32} (hp : pX7_isUsed post b x1 x2 w) : MtI tabX l yX7_isUsed cX7_isUsed 3 (some .boolean) 1 g w [.ref (g.2.2 (rl b)), .int x1, .int x2] post := by
  refine q_entZ tabX_nd (by decide) rfl (Nat.le_of_ble_eq_true rfl) ?_
  intro p e s m args below meth c A Q ls hC hR hS hl
  have hx := hC.1
  have hb := hC.2.1
  have hl : lv_has ls 3 [(0, .ref (g.2.2 (rl b))), (1, .int x1), (2, .int x2)] := hl
  unfold pX7_isUsed at hp
  refine lv_iload_n hx hb dX7_isUsed_0 rfl (lv_at hl 1 rfl) ?_
  refine lv_if_lt (tgt := 30) hx hb dX7_isUsed_1 (by decide) (fun c_1 => ?_) (fun c_1 => ?_)
  · have hp := hp.1 c_1
    refine lv_iconst hx hb dX7_isUsed_30 kI_0 ?_
    exact hR _ _ _ _ _ _ dX7_isUsed_31 (by decide) hp hS
  · have hp := hp.2 c_1
    refine lv_iload_n hx hb dX7_isUsed_4 rfl (lv_at hl 1 rfl) ?_
    refine lv_aload_n hx hb dX7_isUsed_5 rfl (lv_at hl 0 rfl) ?_
    refine GR_7 hC hS m129 dX7_isUsed_6 ?_
    refine NaR_7 hC hS dX7_isUsed_9 ?_
    refine lv_icmp_ge (tgt := 30) hx hb dX7_isUsed_10 (by decide) (fun c_2 => ?_) (fun c_2 => ?_)
    · have hp := hp.1 c_2
      refine lv_iconst hx hb dX7_isUsed_30 kI_0 ?_
      exact hR _ _ _ _ _ _ dX7_isUsed_31 (by decide) hp hS
    · have hp := hp.2 c_2
      refine lv_aload_n hx hb dX7_isUsed_13 rfl (lv_at hl 0 rfl) ?_
      refine GR_7 hC hS m129 dX7_isUsed_14 ?_
      refine lv_iload_n hx hb dX7_isUsed_17 rfl (lv_at hl 1 rfl) ?_
      refine LaR_7 hC hS hp.1 dX7_isUsed_18 ?_
      have hp := hp.2
      refine lv_iload_n hx hb dX7_isUsed_19 rfl (lv_at hl 2 rfl) ?_
      refine lv_ishr hx hb dX7_isUsed_20 ?_
      refine lv_iconst hx hb dX7_isUsed_21 kI_1 ?_
      refine lv_iand hx hb dX7_isUsed_22 ?_
      refine lv_if_eq (tgt := 30) hx hb dX7_isUsed_23 (by decide) (fun c_3 => ?_) (fun c_3 => ?_)
      · have hp := hp.1 c_3
        refine lv_iconst hx hb dX7_isUsed_30 kI_0 ?_
        exact hR _ _ _ _ _ _ dX7_isUsed_31 (by decide) hp hS
      · have hp := hp.2 c_3
        refine lv_iconst hx hb dX7_isUsed_26 kI_1 ?_
        refine lv_goto (tgt := 31) hx hb dX7_isUsed_27 (by decide) ?_
        exact hR _ _ _ _ _ _ dX7_isUsed_31 (by decide) hp hS
def pX1_setUp_125 (post : Int32 → Wd → Prop) (x2 : Int32) (x3 : Int32) (x4 : Int32) (w : Wd) : Prop := ∀ w_1, w_1 = sA w 46 (5 : Int32).toNatClampNeg (w.1 160 12) → ∀ w_2, w_2 = sA w_1 46 (6 : Int32).toNatClampNeg x2 → ∀ w_3, w_3 = sA w_2 46 (7 : Int32).toNatClampNeg x3 → post (x4 * (104 : Int32)) w_3
def pX1_setUp_113 (post : Int32 → Wd → Prop) (x2 : Int32) (x3 : Int32) (x4 : Int32) (x5 : Int32) (t1 : Int32) (t2 : Int32) (w : Wd) : Prop := pX1_forget (fun w_1 => vp_in x4 40 ∧ ∀ w_2, w_2 = sA w_1 45 x4.toNatClampNeg x5 → pX1_setUp_125 post x2 x3 x4 w_2) t1 t2 w
def pX1_setUp_73 (post : Int32 → Wd → Prop) (x1 : Int32) (x2 : Int32) (x3 : Int32) (x4 : Int32) (t0 : Int32) (t1 : Int32) (w : Wd) : Prop := ∀ x5_1, x5_1 = (t0 + t1) → vp_in x4 40 ∧ ((w.2.1 45 x4.toNatClampNeg) = x5_1 → (pX1_setUp_125 post x2 x3 x4 w)) ∧ (¬ (w.2.1 45 x4.toNatClampNeg) = x5_1 → (pX7_isUsed (fun r_3 w_4 => (r_3 = 0 → (pX1_setUp_113 post x2 x3 x4 x5_1 (x4 * (104 : Int32)) (8 : Int32) w_4)) ∧ (¬ r_3 = 0 → (pX1_setUp_113 post x2 x3 x4 x5_1 (x4 * (104 : Int32)) (104 : Int32) w_4))) (w.2.2.2.2 3) x1 (4 : Int32) w))
def pX1_setUp_51 (post : Int32 → Wd → Prop) (x1 : Int32) (x2 : Int32) (x3 : Int32) (x4 : Int32) (t0 : Int32) (w : Wd) : Prop := pX7_isUsed (fun r_1 w_2 => (r_1 = 0 → (pX1_setUp_73 post x1 x2 x3 x4 t0 (0 : Int32) w_2)) ∧ (¬ r_1 = 0 → (pX1_setUp_73 post x1 x2 x3 x4 t0 x3 w_2))) (w.2.2.2.2 3) x1 (7 : Int32) w
def pX1_setUp_22 (post : Int32 → Wd → Prop) (x1 : Int32) (x2 : Int32) (x3 : Int32) (t0 : Int32) (t1 : Int32) (w : Wd) : Prop := ∀ x4_1, x4_1 = (t0 + t1) → pX7_isUsed (fun r_2 w_3 => (r_2 = 0 → (pX1_setUp_51 post x1 x2 x3 x4_1 (0 : Int32) w_3)) ∧ (¬ r_2 = 0 → (pX1_setUp_51 post x1 x2 x3 x4_1 ((w_3.1 160 12) * (100 : Int32)) w_3))) (w.2.2.2.2 3) x1 (5 : Int32) w
def pX1_setUp (post : Int32 → Wd → Prop) (x1 : Int32) (x2 : Int32) (x3 : Int32) (w : Wd) : Prop := pX7_isUsed (fun r_1 w_2 => (r_1 = 0 → (pX1_setUp_22 post x1 x2 x3 (x1 * (10 : Int32)) (0 : Int32) w_2)) ∧ (¬ r_1 = 0 → (pX1_setUp_22 post x1 x2 x3 (x1 * (10 : Int32)) x2 w_2))) (w.2.2.2.2 3) x1 (6 : Int32) w
set_option maxHeartbeats 4000000 in
set_option maxRecDepth 100000 in
theorem bX1_setUp_125 {p : Program} {l : Launch} {e : Env} {s : State} {m : MethodId} {args : Array Value} {below : List Frame} {meth : Method} {c : Code} {Q : State → Prop} {A : Nat → Prop} {g : Gw} {post : Int32 → Wd → Prop}  (hC : Cx p s m args c cX1_setUp RX1 6 g) (hR : RtI tabX p l e (rk 2) s m args below meth c Q cX1_setUp A g post)  : ∀ (x2 : Int32) (x3 : Int32) (x4 : Int32) (w : Wd) (H : Heap) (locs : List Loc) (ls : Array Slot), pX1_setUp_125 post x2 x3 x4 w → St tabX A s.heap g w H locs → lv_has ls 6 [(0, .ref (g.2.2 40)), (2, .int x2), (3, .int x3), (4, .int x4)] → W p l e (rk 2) s m args below meth c H locs 0 0 Q (F0 m 125 ls []) := by
  have hx := hC.1
  have hb := hC.2.1
  intro x2 x3 x4 w H locs ls hp hS hl
  unfold pX1_setUp_125 at hp
  refine lv_aload_n hx hb dX1_setUp_125 rfl (lv_at hl 0 rfl) ?_
  refine G_40_5 hC hS m172 dX1_setUp_126 ?_
  refine lv_iconst hx hb dX1_setUp_129 kI_5 ?_
  refine lv_aload_n hx hb dX1_setUp_130 rfl (lv_at hl 0 rfl) ?_
  refine G_40_0 hC hS m167 dX1_setUp_131 ?_
  refine G_160_12 hC hS m718 dX1_setUp_134 ?_
  refine Sa_46 hC hS (by unfold vp_in; decide) dX1_setUp_137 (fun w_1 H locs ew_1 hS => ?_)
  have hp := hp w_1 ew_1
  refine lv_aload_n hx hb dX1_setUp_138 rfl (lv_at hl 0 rfl) ?_
  refine G_40_5 hC hS m172 dX1_setUp_139 ?_
  refine lv_bipush hx hb dX1_setUp_142 kB_6 ?_
  refine lv_iload_n hx hb dX1_setUp_144 rfl (lv_at hl 1 rfl) ?_
  refine Sa_46 hC hS (by unfold vp_in; decide) dX1_setUp_145 (fun w_2 H locs ew_2 hS => ?_)
  have hp := hp w_2 ew_2
  refine lv_aload_n hx hb dX1_setUp_146 rfl (lv_at hl 0 rfl) ?_
  refine G_40_5 hC hS m172 dX1_setUp_147 ?_
  refine lv_bipush hx hb dX1_setUp_150 kB_7 ?_
  refine lv_iload_n hx hb dX1_setUp_152 rfl (lv_at hl 2 rfl) ?_
  refine Sa_46 hC hS (by unfold vp_in; decide) dX1_setUp_153 (fun w_3 H locs ew_3 hS => ?_)
  have hp := hp w_3 ew_3
  refine lv_iload hx hb dX1_setUp_154 (lv_at hl 3 rfl) ?_
  refine lv_bipush hx hb dX1_setUp_156 kB_104 ?_
  refine lv_imul hx hb dX1_setUp_158 ?_
  exact hR _ _ _ _ _ _ dX1_setUp_159 hp hS
set_option maxHeartbeats 4000000 in
set_option maxRecDepth 100000 in
theorem bX1_setUp_113 {p : Program} {l : Launch} {e : Env} {s : State} {m : MethodId} {args : Array Value} {below : List Frame} {meth : Method} {c : Code} {Q : State → Prop} {A : Nat → Prop} {g : Gw} {post : Int32 → Wd → Prop}  (hC : Cx p s m args c cX1_setUp RX1 6 g) (hR : RtI tabX p l e (rk 2) s m args below meth c Q cX1_setUp A g post)  : ∀ (x2 : Int32) (x3 : Int32) (x4 : Int32) (x5 : Int32) (t1 : Int32) (t2 : Int32) (w : Wd) (H : Heap) (locs : List Loc) (ls : Array Slot), pX1_setUp_113 post x2 x3 x4 x5 t1 t2 w → St tabX A s.heap g w H locs → lv_has ls 6 [(0, .ref (g.2.2 40)), (2, .int x2), (3, .int x3), (4, .int x4), (5, .int x5)] → W p l e (rk 2) s m args below meth c H locs 0 0 Q (F0 m 113 ls [.int t2, .int t1, .ref (g.2.2 40)]) := by
  have hx := hC.1
  have hb := hC.2.1
  intro x2 x3 x4 x5 t1 t2 w H locs ls hp hS hl
  unfold pX1_setUp_113 at hp
  refine q_cvV (As := [.int t1, .int t2]) (rest := []) hC hS hl.1 (rX1_forget hp) cwX1_72 yvX1_forget (rcv_40 hC hS) rfl rfl (Nat.le_of_ble_eq_true rfl) (rmk (by decide) (by decide)) dX1_setUp_113 (fun w_1 H locs hp hS => ?_)
  refine lv_aload_n hx hb dX1_setUp_116 rfl (lv_at hl 0 rfl) ?_
  refine G_40_4 hC hS m171 dX1_setUp_117 ?_
  refine lv_iload hx hb dX1_setUp_120 (lv_at hl 3 rfl) ?_
  refine lv_iload hx hb dX1_setUp_122 (lv_at hl 4 rfl) ?_
  refine Sa_45 hC hS hp.1 dX1_setUp_124 (fun w_2 H locs ew_2 hS => ?_)
  have hp := hp.2
  have hp := hp w_2 ew_2
  exact bX1_setUp_125 hC hR x2 x3 x4 w_2 _ _ _ hp hS (lv_sub hl [0, 1, 2, 3] rfl)
set_option maxHeartbeats 4000000 in
set_option maxRecDepth 100000 in
theorem bX1_setUp_73 {p : Program} {l : Launch} {e : Env} {s : State} {m : MethodId} {args : Array Value} {below : List Frame} {meth : Method} {c : Code} {Q : State → Prop} {A : Nat → Prop} {g : Gw} {post : Int32 → Wd → Prop}  (hC : Cx p s m args c cX1_setUp RX1 6 g) (hR : RtI tabX p l e (rk 2) s m args below meth c Q cX1_setUp A g post)  : ∀ (x1 : Int32) (x2 : Int32) (x3 : Int32) (x4 : Int32) (t0 : Int32) (t1 : Int32) (w : Wd) (H : Heap) (locs : List Loc) (ls : Array Slot), pX1_setUp_73 post x1 x2 x3 x4 t0 t1 w → St tabX A s.heap g w H locs → lv_has ls 6 [(0, .ref (g.2.2 40)), (1, .int x1), (2, .int x2), (3, .int x3), (4, .int x4)] → W p l e (rk 2) s m args below meth c H locs 0 0 Q (F0 m 73 ls [.int t1, .int t0]) := by
  have hx := hC.1
  have hb := hC.2.1
  intro x1 x2 x3 x4 t0 t1 w H locs ls hp hS hl
  unfold pX1_setUp_73 at hp
  refine lv_iadd hx hb dX1_setUp_73 ?_
  refine lv_topi (fun x5_1 ex5_1 => ?_)
  have hp := hp x5_1 ex5_1
  refine lv_istore (lv' := [(5, .int x5_1), (0, .ref (g.2.2 40)), (1, .int x1), (2, .int x2), (3, .int x3), (4, .int x4)]) hx hb dX1_setUp_74 hl (by decide) rfl (fun ls hl => ?_)
  refine lv_aload_n hx hb dX1_setUp_76 rfl (lv_at hl 1 rfl) ?_
  refine G_40_4 hC hS m171 dX1_setUp_77 ?_
  refine lv_iload hx hb dX1_setUp_80 (lv_at hl 5 rfl) ?_
  refine La_45 hC hS hp.1 dX1_setUp_82 ?_
  have hp := hp.2
  refine lv_iload hx hb dX1_setUp_83 (lv_at hl 0 rfl) ?_
  refine lv_icmp_eq (tgt := 125) hx hb dX1_setUp_85 (by decide) (fun c_2 => ?_) (fun c_2 => ?_)
  · have hp := hp.1 c_2
    exact bX1_setUp_125 hC hR x2 x3 x4 w _ _ _ hp hS (lv_sub hl [1, 3, 4, 5] rfl)
  · have hp := hp.2 c_2
    refine lv_aload_n hx hb dX1_setUp_88 rfl (lv_at hl 1 rfl) ?_
    refine lv_iload hx hb dX1_setUp_89 (lv_at hl 5 rfl) ?_
    refine lv_bipush hx hb dX1_setUp_91 kB_104 ?_
    refine lv_imul hx hb dX1_setUp_93 ?_
    refine lv_aload_n hx hb dX1_setUp_94 rfl (lv_at hl 1 rfl) ?_
    refine G_40_1 hC hS m168 dX1_setUp_95 ?_
    refine lv_iload_n hx hb dX1_setUp_98 rfl (lv_at hl 2 rfl) ?_
    refine lv_iconst hx hb dX1_setUp_99 kI_4 ?_
    refine q_cvI (As := [.int x1, .int (4 : Int32)]) (rest := [.int (x4 * (104 : Int32)), .ref (g.2.2 40)]) hC hS hl.1 (rX7_isUsed hp) cwX1_32 yvX7_isUsed (rcvR hC hS) rfl rfl (Nat.le_of_ble_eq_true rfl) (rmk (by decide) (by decide)) dX1_setUp_100 (fun r_3 w_4 H locs hp hS => ?_)
    refine lv_if_eq (tgt := 111) hx hb dX1_setUp_103 (by decide) (fun c_5 => ?_) (fun c_5 => ?_)
    · have hp := hp.1 c_5
      refine lv_bipush hx hb dX1_setUp_111 kB_8 ?_
      exact bX1_setUp_113 hC hR x2 x3 x4 x5_1 (x4 * (104 : Int32)) (8 : Int32) w_4 _ _ _ hp hS (lv_sub hl [1, 3, 4, 5, 0] rfl)
    · have hp := hp.2 c_5
      refine lv_bipush hx hb dX1_setUp_106 kB_104 ?_
      refine lv_goto (tgt := 113) hx hb dX1_setUp_108 (by decide) ?_
      exact bX1_setUp_113 hC hR x2 x3 x4 x5_1 (x4 * (104 : Int32)) (104 : Int32) w_4 _ _ _ hp hS (lv_sub hl [1, 3, 4, 5, 0] rfl)
set_option maxHeartbeats 4000000 in
set_option maxRecDepth 100000 in
theorem bX1_setUp_51 {p : Program} {l : Launch} {e : Env} {s : State} {m : MethodId} {args : Array Value} {below : List Frame} {meth : Method} {c : Code} {Q : State → Prop} {A : Nat → Prop} {g : Gw} {post : Int32 → Wd → Prop}  (hC : Cx p s m args c cX1_setUp RX1 6 g) (hR : RtI tabX p l e (rk 2) s m args below meth c Q cX1_setUp A g post)  : ∀ (x1 : Int32) (x2 : Int32) (x3 : Int32) (x4 : Int32) (t0 : Int32) (w : Wd) (H : Heap) (locs : List Loc) (ls : Array Slot), pX1_setUp_51 post x1 x2 x3 x4 t0 w → St tabX A s.heap g w H locs → lv_has ls 6 [(0, .ref (g.2.2 40)), (1, .int x1), (2, .int x2), (3, .int x3), (4, .int x4)] → W p l e (rk 2) s m args below meth c H locs 0 0 Q (F0 m 51 ls [.int t0]) := by
  have hx := hC.1
  have hb := hC.2.1
  intro x1 x2 x3 x4 t0 w H locs ls hp hS hl
  unfold pX1_setUp_51 at hp
  refine lv_istore (lv' := [(5, .int t0), (0, .ref (g.2.2 40)), (1, .int x1), (2, .int x2), (3, .int x3), (4, .int x4)]) hx hb dX1_setUp_51 hl (by decide) rfl (fun ls hl => ?_)
  refine lv_iload hx hb dX1_setUp_53 (lv_at hl 0 rfl) ?_
  refine lv_aload_n hx hb dX1_setUp_55 rfl (lv_at hl 1 rfl) ?_
  refine G_40_1 hC hS m168 dX1_setUp_56 ?_
  refine lv_iload_n hx hb dX1_setUp_59 rfl (lv_at hl 2 rfl) ?_
  refine lv_bipush hx hb dX1_setUp_60 kB_7 ?_
  refine q_cvI (As := [.int x1, .int (7 : Int32)]) (rest := [.int t0]) hC hS hl.1 (rX7_isUsed hp) cwX1_32 yvX7_isUsed (rcvR hC hS) rfl rfl (Nat.le_of_ble_eq_true rfl) (rmk (by decide) (by decide)) dX1_setUp_62 (fun r_1 w_2 H locs hp hS => ?_)
  refine lv_if_eq (tgt := 72) hx hb dX1_setUp_65 (by decide) (fun c_3 => ?_) (fun c_3 => ?_)
  · have hp := hp.1 c_3
    refine lv_iconst hx hb dX1_setUp_72 kI_0 ?_
    exact bX1_setUp_73 hC hR x1 x2 x3 x4 t0 (0 : Int32) w_2 _ _ _ hp hS (lv_sub hl [1, 2, 3, 4, 5] rfl)
  · have hp := hp.2 c_3
    refine lv_iload_n hx hb dX1_setUp_68 rfl (lv_at hl 4 rfl) ?_
    refine lv_goto (tgt := 73) hx hb dX1_setUp_69 (by decide) ?_
    exact bX1_setUp_73 hC hR x1 x2 x3 x4 t0 x3 w_2 _ _ _ hp hS (lv_sub hl [1, 2, 3, 4, 5] rfl)
set_option maxHeartbeats 4000000 in
set_option maxRecDepth 100000 in
theorem bX1_setUp_22 {p : Program} {l : Launch} {e : Env} {s : State} {m : MethodId} {args : Array Value} {below : List Frame} {meth : Method} {c : Code} {Q : State → Prop} {A : Nat → Prop} {g : Gw} {post : Int32 → Wd → Prop}  (hC : Cx p s m args c cX1_setUp RX1 6 g) (hR : RtI tabX p l e (rk 2) s m args below meth c Q cX1_setUp A g post)  : ∀ (x1 : Int32) (x2 : Int32) (x3 : Int32) (t0 : Int32) (t1 : Int32) (w : Wd) (H : Heap) (locs : List Loc) (ls : Array Slot), pX1_setUp_22 post x1 x2 x3 t0 t1 w → St tabX A s.heap g w H locs → lv_has ls 6 [(0, .ref (g.2.2 40)), (1, .int x1), (2, .int x2), (3, .int x3)] → W p l e (rk 2) s m args below meth c H locs 0 0 Q (F0 m 22 ls [.int t1, .int t0]) := by
  have hx := hC.1
  have hb := hC.2.1
  intro x1 x2 x3 t0 t1 w H locs ls hp hS hl
  unfold pX1_setUp_22 at hp
  refine lv_iadd hx hb dX1_setUp_22 ?_
  refine lv_topi (fun x4_1 ex4_1 => ?_)
  have hp := hp x4_1 ex4_1
  refine lv_istore (lv' := [(4, .int x4_1), (0, .ref (g.2.2 40)), (1, .int x1), (2, .int x2), (3, .int x3)]) hx hb dX1_setUp_23 hl (by decide) rfl (fun ls hl => ?_)
  refine lv_aload_n hx hb dX1_setUp_25 rfl (lv_at hl 1 rfl) ?_
  refine G_40_1 hC hS m168 dX1_setUp_26 ?_
  refine lv_iload_n hx hb dX1_setUp_29 rfl (lv_at hl 2 rfl) ?_
  refine lv_iconst hx hb dX1_setUp_30 kI_5 ?_
  refine q_cvI (As := [.int x1, .int (5 : Int32)]) (rest := []) hC hS hl.1 (rX7_isUsed hp) cwX1_32 yvX7_isUsed (rcvR hC hS) rfl rfl (Nat.le_of_ble_eq_true rfl) (rmk (by decide) (by decide)) dX1_setUp_31 (fun r_2 w_3 H locs hp hS => ?_)
  refine lv_if_eq (tgt := 50) hx hb dX1_setUp_34 (by decide) (fun c_4 => ?_) (fun c_4 => ?_)
  · have hp := hp.1 c_4
    refine lv_iconst hx hb dX1_setUp_50 kI_0 ?_
    exact bX1_setUp_51 hC hR x1 x2 x3 x4_1 (0 : Int32) w_3 _ _ _ hp hS (lv_sub hl [1, 2, 3, 4, 0] rfl)
  · have hp := hp.2 c_4
    refine lv_aload_n hx hb dX1_setUp_37 rfl (lv_at hl 1 rfl) ?_
    refine G_40_0 hC hS m167 dX1_setUp_38 ?_
    refine G_160_12 hC hS m718 dX1_setUp_41 ?_
    refine lv_bipush hx hb dX1_setUp_44 kB_100 ?_
    refine lv_imul hx hb dX1_setUp_46 ?_
    refine lv_goto (tgt := 51) hx hb dX1_setUp_47 (by decide) ?_
    exact bX1_setUp_51 hC hR x1 x2 x3 x4_1 ((w_3.1 160 12) * (100 : Int32)) w_3 _ _ _ hp hS (lv_sub hl [1, 2, 3, 4, 0] rfl)
set_option maxHeartbeats 4000000 in
set_option maxRecDepth 100000 in
theorem rX1_setUp {l : Launch} {g : Gw} {w : Wd} {post : Int32 → Wd → Prop}   {x1 : Int32} {x2 : Int32} {x3 : Int32} (hp : pX1_setUp post x1 x2 x3 w) : MtI tabX l yX1_setUp cX1_setUp 6 (some .int) 2 g w [.ref (g.2.2 40), .int x1, .int x2, .int x3] post := by
  refine q_entI tabX_nd (by decide) rfl (Nat.le_of_ble_eq_true rfl) ?_
  intro p e s m args below meth c A Q ls hC hR hS hl
  have hx := hC.1
  have hb := hC.2.1
  have hl : lv_has ls 6 [(0, .ref (g.2.2 40)), (1, .int x1), (2, .int x2), (3, .int x3)] := hl
  unfold pX1_setUp at hp
  refine lv_iload_n hx hb dX1_setUp_0 rfl (lv_at hl 1 rfl) ?_
  refine lv_bipush hx hb dX1_setUp_1 kB_10 ?_
  refine lv_imul hx hb dX1_setUp_3 ?_
  refine lv_aload_n hx hb dX1_setUp_4 rfl (lv_at hl 0 rfl) ?_
  refine G_40_1 hC hS m168 dX1_setUp_5 ?_
  refine lv_iload_n hx hb dX1_setUp_8 rfl (lv_at hl 1 rfl) ?_
  refine lv_bipush hx hb dX1_setUp_9 kB_6 ?_
  refine q_cvI (As := [.int x1, .int (6 : Int32)]) (rest := [.int (x1 * (10 : Int32))]) hC hS hl.1 (rX7_isUsed hp) cwX1_32 yvX7_isUsed (rcvR hC hS) rfl rfl (Nat.le_of_ble_eq_true rfl) (rmk (by decide) (by decide)) dX1_setUp_11 (fun r_1 w_2 H locs hp hS => ?_)
  refine lv_if_eq (tgt := 21) hx hb dX1_setUp_14 (by decide) (fun c_3 => ?_) (fun c_3 => ?_)
  · have hp := hp.1 c_3
    refine lv_iconst hx hb dX1_setUp_21 kI_0 ?_
    exact bX1_setUp_22 hC hR x1 x2 x3 (x1 * (10 : Int32)) (0 : Int32) w_2 _ _ _ hp hS (lv_sub hl [0, 1, 2, 3] rfl)
  · have hp := hp.2 c_3
    refine lv_iload_n hx hb dX1_setUp_17 rfl (lv_at hl 2 rfl) ?_
    refine lv_goto (tgt := 22) hx hb dX1_setUp_18 (by decide) ?_
    exact bX1_setUp_22 hC hR x1 x2 x3 (x1 * (10 : Int32)) x2 w_2 _ _ _ hp hS (lv_sub hl [0, 1, 2, 3] rfl)
def pX1_rowAfter_162 (k112 : Int32 → Int32 → Int32 → Int32 → Int32 → Int32 → Wd → Prop) (post : Int32 → Wd → Prop) (x2 : Int32) (x7 : Int32) (x8 : Int32) (x9 : Int32) (x10 : Int32) (x11 : Int32) (x12 : Int32) (x13 : Int32) (w : Wd) : Prop := vp_in (x7 + x12) 4160 ∧ ∀ x10_1, x10_1 = (x10 ||| ((w.2.1 44 (x7 + x12).toNatClampNeg) &&& x13)) → ∀ x11_2, x11_2 = x11 + (1 : Int32) → k112 x2 x7 x8 x9 x10_1 x11_2 w
def pX1_rowAfter_112 (post : Int32 → Wd → Prop) : Nat → Int32 → Int32 → Int32 → Int32 → Int32 → Int32 → Wd → Prop
  | 0, _, _, _, _, _, _, _ => False
  | n + 1, x2, x7, x8, x9, x10, x11, w => (x8 ≤ x11 → (post x10 w)) ∧ (¬ x8 ≤ x11 → (∀ x12_2, x12_2 = ((x9.toUInt32 >>> (x11.toUInt32 &&& Int32.toUInt32 31)).toInt32 &&& (7 : Int32)) → ∀ x13_3, x13_3 = ((1 : Int32) <<< (x11 &&& 31)) → vp_in (x7 + x12_2) 4160 ∧ (¬ ((w.2.1 43 (x7 + x12_2).toNatClampNeg) &&& x13_3) = 0 → (pX1_rowAfter_162 (pX1_rowAfter_112 post n) post x2 x7 x8 x9 x10 x11 x12_2 x13_3 w)) ∧ (((w.2.1 43 (x7 + x12_2).toNatClampNeg) &&& x13_3) = 0 → (pX1_learn (fun w_5 => pX1_rowAfter_162 (pX1_rowAfter_112 post n) post x2 x7 x8 x9 x10 x11 x12_2 x13_3 w_5) x2 x7 x12_2 x11 w))))
def pX1_rowAfter_91 (post : Int32 → Wd → Prop) (x2 : Int32) (x5 : Int32) (x7 : Int32) (w : Wd) : Prop := ∀ x8_1, x8_1 = (w.1 (rl (w.2.2.2.2 3)) 0) → ∀ x9_2, x9_2 = (x5 <<< ((1 : Int32) &&& 31)) → ∃ n9, pX1_rowAfter_112 post n9 x2 x7 x8_1 x9_2 (0 : Int32) (0 : Int32) w
def pX1_rowAfter (post : Int32 → Wd → Prop) (x1 : Int32) (x2 : Int32) (x3 : Int32) (x4 : Int32) (w : Wd) : Prop := (x2 < 0 → (post x1 w)) ∧ (¬ x2 < 0 → (((w.1 (rl (w.2.2.2.2 3)) 2) ≤ x2 → (post x1 w)) ∧ (¬ (w.1 (rl (w.2.2.2.2 3)) 2) ≤ x2 → (pX10_isHeat (fun r_3 w_4 => (¬ r_3 = 0 → (pX10_turn (fun r_6 w_7 => pJ6_bitCount_0f7a4 (fun r_8 w_9 => pX1_setUp (fun r_10 w_11 => pX7_isUsed (fun r_12 w_13 => (r_12 = 0 → (pX1_rowAfter_91 post x2 r_6 r_10 w_13)) ∧ (¬ r_12 = 0 → (((12 : Int32) < r_8 → (pX1_rowAfter_91 post x2 r_6 r_10 w_13)) ∧ (¬ (12 : Int32) < r_8 → (∀ x7_16, x7_16 = (r_10 + (r_8 * (8 : Int32))) → ∀ w_17, w_17 = sA w_13 46 (4 : Int32).toNatClampNeg r_8 → pX1_rowAfter_91 post x2 r_6 x7_16 w_17))))) (w_11.2.2.2.2 3) x2 (4 : Int32) w_11) x2 x3 x4 w_9) r_6 w_7) x1 (w_4.1 (rl (w_4.2.2.2.2 3)) 0) w_4)) ∧ (r_3 = 0 → (post x1 w_4))) x3 w))))
set_option maxHeartbeats 4000000 in
set_option maxRecDepth 100000 in
theorem bX1_rowAfter_162 {p : Program} {l : Launch} {e : Env} {s : State} {m : MethodId} {args : Array Value} {below : List Frame} {meth : Method} {c : Code} {Q : State → Prop} {A : Nat → Prop} {g : Gw} {post : Int32 → Wd → Prop}  (hC : Cx p s m args c cX1_rowAfter RX1 14 g) (hR : RtI tabX p l e (rk 4) s m args below meth c Q cX1_rowAfter A g post)  {k112 : Int32 → Int32 → Int32 → Int32 → Int32 → Int32 → Wd → Prop} (hk112 : ∀ (x2 : Int32) (x7 : Int32) (x8 : Int32) (x9 : Int32) (x10 : Int32) (x11 : Int32) (w : Wd) (H : Heap) (locs : List Loc) (ls : Array Slot), k112 x2 x7 x8 x9 x10 x11 w → St tabX A s.heap g w H locs → lv_has ls 14 [(0, .ref (g.2.2 40)), (2, .int x2), (7, .int x7), (8, .int x8), (9, .int x9), (10, .int x10), (11, .int x11)] → W p l e (rk 4) s m args below meth c H locs 0 0 Q (F0 m 112 ls [])) : ∀ (x2 : Int32) (x7 : Int32) (x8 : Int32) (x9 : Int32) (x10 : Int32) (x11 : Int32) (x12 : Int32) (x13 : Int32) (w : Wd) (H : Heap) (locs : List Loc) (ls : Array Slot), pX1_rowAfter_162 k112 post x2 x7 x8 x9 x10 x11 x12 x13 w → St tabX A s.heap g w H locs → lv_has ls 14 [(0, .ref (g.2.2 40)), (2, .int x2), (7, .int x7), (8, .int x8), (9, .int x9), (10, .int x10), (11, .int x11), (12, .int x12), (13, .int x13)] → W p l e (rk 4) s m args below meth c H locs 0 0 Q (F0 m 162 ls []) := by
  have hx := hC.1
  have hb := hC.2.1
  intro x2 x7 x8 x9 x10 x11 x12 x13 w H locs ls hp hS hl
  unfold pX1_rowAfter_162 at hp
  refine lv_iload hx hb dX1_rowAfter_162 (lv_at hl 5 rfl) ?_
  refine lv_aload_n hx hb dX1_rowAfter_164 rfl (lv_at hl 0 rfl) ?_
  refine G_40_3 hC hS m170 dX1_rowAfter_165 ?_
  refine lv_iload hx hb dX1_rowAfter_168 (lv_at hl 2 rfl) ?_
  refine lv_iload hx hb dX1_rowAfter_170 (lv_at hl 7 rfl) ?_
  refine lv_iadd hx hb dX1_rowAfter_172 ?_
  refine La_44 hC hS hp.1 dX1_rowAfter_173 ?_
  have hp := hp.2
  refine lv_iload hx hb dX1_rowAfter_174 (lv_at hl 8 rfl) ?_
  refine lv_iand hx hb dX1_rowAfter_176 ?_
  refine lv_ior hx hb dX1_rowAfter_177 ?_
  refine lv_topi (fun x10_1 ex10_1 => ?_)
  have hp := hp x10_1 ex10_1
  refine lv_istore (lv' := [(10, .int x10_1), (0, .ref (g.2.2 40)), (2, .int x2), (7, .int x7), (8, .int x8), (9, .int x9), (11, .int x11), (12, .int x12), (13, .int x13)]) hx hb dX1_rowAfter_178 hl (by decide) rfl (fun ls hl => ?_)
  obtain ⟨x11_2, ex11_2⟩ : ∃ y : Int32, y = x11 + (1 : Int32) := ⟨_, rfl⟩
  have hp := hp x11_2 ex11_2
  refine lv_iinc (v := x11_2) (lv' := [(11, .int x11_2), (10, .int x10_1), (0, .ref (g.2.2 40)), (2, .int x2), (7, .int x7), (8, .int x8), (9, .int x9), (12, .int x12), (13, .int x13)]) hx hb dX1_rowAfter_180 hl (k := 6) rfl (by rw [ex11_2]; rfl) (by decide) rfl (fun ls hl => ?_)
  refine lv_goto (tgt := 112) hx hb dX1_rowAfter_183 (by decide) ?_
  exact hk112 x2 x7 x8 x9 x10_1 x11_2 w _ _ _ hp hS (lv_sub hl [2, 3, 4, 5, 6, 1, 0] rfl)
set_option maxHeartbeats 4000000 in
set_option maxRecDepth 100000 in
theorem bX1_rowAfter_112 {p : Program} {l : Launch} {e : Env} {s : State} {m : MethodId} {args : Array Value} {below : List Frame} {meth : Method} {c : Code} {Q : State → Prop} {A : Nat → Prop} {g : Gw} {post : Int32 → Wd → Prop}  (hC : Cx p s m args c cX1_rowAfter RX1 14 g) (hR : RtI tabX p l e (rk 4) s m args below meth c Q cX1_rowAfter A g post)  : ∀ (n : Nat) (x2 : Int32) (x7 : Int32) (x8 : Int32) (x9 : Int32) (x10 : Int32) (x11 : Int32) (w : Wd) (H : Heap) (locs : List Loc) (ls : Array Slot), pX1_rowAfter_112 post n x2 x7 x8 x9 x10 x11 w → St tabX A s.heap g w H locs → lv_has ls 14 [(0, .ref (g.2.2 40)), (2, .int x2), (7, .int x7), (8, .int x8), (9, .int x9), (10, .int x10), (11, .int x11)] → W p l e (rk 4) s m args below meth c H locs 0 0 Q (F0 m 112 ls []) := by
  have hx := hC.1
  have hb := hC.2.1
  intro n
  induction n with
  | zero =>
    intro x2 x7 x8 x9 x10 x11 w H locs ls hp hS hl
    exact False.elim hp
  | succ n ih =>
    intro x2 x7 x8 x9 x10 x11 w H locs ls hp hS hl
    unfold pX1_rowAfter_112 at hp
    refine lv_iload hx hb dX1_rowAfter_112 (lv_at hl 6 rfl) ?_
    refine lv_iload hx hb dX1_rowAfter_114 (lv_at hl 3 rfl) ?_
    refine lv_icmp_ge (tgt := 186) hx hb dX1_rowAfter_116 (by decide) (fun c_1 => ?_) (fun c_1 => ?_)
    · have hp := hp.1 c_1
      refine lv_iload hx hb dX1_rowAfter_186 (lv_at hl 5 rfl) ?_
      exact hR _ _ _ _ _ _ dX1_rowAfter_188 hp hS
    · have hp := hp.2 c_1
      refine lv_iload hx hb dX1_rowAfter_119 (lv_at hl 4 rfl) ?_
      refine lv_iload hx hb dX1_rowAfter_121 (lv_at hl 6 rfl) ?_
      refine lv_iushr hx hb dX1_rowAfter_123 rfl ?_
      refine lv_bipush hx hb dX1_rowAfter_124 kB_7 ?_
      refine lv_iand hx hb dX1_rowAfter_126 ?_
      refine lv_topi (fun x12_2 ex12_2 => ?_)
      have hp := hp x12_2 ex12_2
      refine lv_istore (lv' := [(12, .int x12_2), (0, .ref (g.2.2 40)), (2, .int x2), (7, .int x7), (8, .int x8), (9, .int x9), (10, .int x10), (11, .int x11)]) hx hb dX1_rowAfter_127 hl (by decide) rfl (fun ls hl => ?_)
      refine lv_iconst hx hb dX1_rowAfter_129 kI_1 ?_
      refine lv_iload hx hb dX1_rowAfter_130 (lv_at hl 7 rfl) ?_
      refine lv_ishl hx hb dX1_rowAfter_132 ?_
      refine lv_topi (fun x13_3 ex13_3 => ?_)
      have hp := hp x13_3 ex13_3
      refine lv_istore (lv' := [(13, .int x13_3), (12, .int x12_2), (0, .ref (g.2.2 40)), (2, .int x2), (7, .int x7), (8, .int x8), (9, .int x9), (10, .int x10), (11, .int x11)]) hx hb dX1_rowAfter_133 hl (by decide) rfl (fun ls hl => ?_)
      refine lv_aload_n hx hb dX1_rowAfter_135 rfl (lv_at hl 2 rfl) ?_
      refine G_40_2 hC hS m169 dX1_rowAfter_136 ?_
      refine lv_iload hx hb dX1_rowAfter_139 (lv_at hl 4 rfl) ?_
      refine lv_iload hx hb dX1_rowAfter_141 (lv_at hl 1 rfl) ?_
      refine lv_iadd hx hb dX1_rowAfter_143 ?_
      refine La_43 hC hS hp.1 dX1_rowAfter_144 ?_
      have hp := hp.2
      refine lv_iload hx hb dX1_rowAfter_145 (lv_at hl 0 rfl) ?_
      refine lv_iand hx hb dX1_rowAfter_147 ?_
      refine lv_if_ne (tgt := 162) hx hb dX1_rowAfter_148 (by decide) (fun c_4 => ?_) (fun c_4 => ?_)
      · have hp := hp.1 c_4
        exact bX1_rowAfter_162 hC hR ih x2 x7 x8 x9 x10 x11 x12_2 x13_3 w _ _ _ hp hS (lv_sub hl [2, 3, 4, 5, 6, 7, 8, 1, 0] rfl)
      · have hp := hp.2 c_4
        refine lv_aload_n hx hb dX1_rowAfter_151 rfl (lv_at hl 2 rfl) ?_
        refine lv_iload_n hx hb dX1_rowAfter_152 rfl (lv_at hl 3 rfl) ?_
        refine lv_iload hx hb dX1_rowAfter_153 (lv_at hl 4 rfl) ?_
        refine lv_iload hx hb dX1_rowAfter_155 (lv_at hl 1 rfl) ?_
        refine lv_iload hx hb dX1_rowAfter_157 (lv_at hl 8 rfl) ?_
        refine q_cvV (As := [.int x2, .int x7, .int x12_2, .int x11]) (rest := []) hC hS hl.1 (rX1_learn hp) cwX1_63 yvX1_learn (rcv_40 hC hS) rfl rfl (Nat.le_of_ble_eq_true rfl) (rmk (by decide) (by decide)) dX1_rowAfter_159 (fun w_5 H locs hp hS => ?_)
        exact bX1_rowAfter_162 hC hR ih x2 x7 x8 x9 x10 x11 x12_2 x13_3 w_5 _ _ _ hp hS (lv_sub hl [2, 3, 4, 5, 6, 7, 8, 1, 0] rfl)
set_option maxHeartbeats 4000000 in
set_option maxRecDepth 100000 in
theorem bX1_rowAfter_91 {p : Program} {l : Launch} {e : Env} {s : State} {m : MethodId} {args : Array Value} {below : List Frame} {meth : Method} {c : Code} {Q : State → Prop} {A : Nat → Prop} {g : Gw} {post : Int32 → Wd → Prop}  (hC : Cx p s m args c cX1_rowAfter RX1 14 g) (hR : RtI tabX p l e (rk 4) s m args below meth c Q cX1_rowAfter A g post)  : ∀ (x2 : Int32) (x5 : Int32) (x7 : Int32) (w : Wd) (H : Heap) (locs : List Loc) (ls : Array Slot), pX1_rowAfter_91 post x2 x5 x7 w → St tabX A s.heap g w H locs → lv_has ls 14 [(0, .ref (g.2.2 40)), (2, .int x2), (5, .int x5), (7, .int x7)] → W p l e (rk 4) s m args below meth c H locs 0 0 Q (F0 m 91 ls []) := by
  have hx := hC.1
  have hb := hC.2.1
  intro x2 x5 x7 w H locs ls hp hS hl
  unfold pX1_rowAfter_91 at hp
  refine lv_aload_n hx hb dX1_rowAfter_91 rfl (lv_at hl 0 rfl) ?_
  refine G_40_1 hC hS m168 dX1_rowAfter_92 ?_
  refine GR_0 hC hS m706 dX1_rowAfter_95 ?_
  refine lv_topi (fun x8_1 ex8_1 => ?_)
  have hp := hp x8_1 ex8_1
  refine lv_istore (lv' := [(8, .int x8_1), (0, .ref (g.2.2 40)), (2, .int x2), (5, .int x5), (7, .int x7)]) hx hb dX1_rowAfter_98 hl (by decide) rfl (fun ls hl => ?_)
  refine lv_iload hx hb dX1_rowAfter_100 (lv_at hl 3 rfl) ?_
  refine lv_iconst hx hb dX1_rowAfter_102 kI_1 ?_
  refine lv_ishl hx hb dX1_rowAfter_103 ?_
  refine lv_topi (fun x9_2 ex9_2 => ?_)
  have hp := hp x9_2 ex9_2
  refine lv_istore (lv' := [(9, .int x9_2), (8, .int x8_1), (0, .ref (g.2.2 40)), (2, .int x2), (5, .int x5), (7, .int x7)]) hx hb dX1_rowAfter_104 hl (by decide) rfl (fun ls hl => ?_)
  refine lv_iconst hx hb dX1_rowAfter_106 kI_0 ?_
  refine lv_istore (lv' := [(10, .int (0 : Int32)), (9, .int x9_2), (8, .int x8_1), (0, .ref (g.2.2 40)), (2, .int x2), (5, .int x5), (7, .int x7)]) hx hb dX1_rowAfter_107 hl (by decide) rfl (fun ls hl => ?_)
  refine lv_iconst hx hb dX1_rowAfter_109 kI_0 ?_
  refine lv_istore (lv' := [(11, .int (0 : Int32)), (10, .int (0 : Int32)), (9, .int x9_2), (8, .int x8_1), (0, .ref (g.2.2 40)), (2, .int x2), (5, .int x5), (7, .int x7)]) hx hb dX1_rowAfter_110 hl (by decide) rfl (fun ls hl => ?_)
  obtain ⟨n9, hp⟩ := hp
  exact bX1_rowAfter_112 hC hR n9 x2 x7 x8_1 x9_2 (0 : Int32) (0 : Int32) w _ _ _ hp hS (lv_sub hl [4, 5, 7, 3, 2, 1, 0] rfl)
set_option maxHeartbeats 4000000 in
set_option maxRecDepth 100000 in
theorem rX1_rowAfter {l : Launch} {g : Gw} {w : Wd} {post : Int32 → Wd → Prop}   {x1 : Int32} {x2 : Int32} {x3 : Int32} {x4 : Int32} (hp : pX1_rowAfter post x1 x2 x3 x4 w) : MtI tabX l yX1_rowAfter cX1_rowAfter 14 (some .int) 4 g w [.ref (g.2.2 40), .int x1, .int x2, .int x3, .int x4] post := by
  refine q_entI tabX_nd (by decide) rfl (Nat.le_of_ble_eq_true rfl) ?_
  intro p e s m args below meth c A Q ls hC hR hS hl
  have hx := hC.1
  have hb := hC.2.1
  have hl : lv_has ls 14 [(0, .ref (g.2.2 40)), (1, .int x1), (2, .int x2), (3, .int x3), (4, .int x4)] := hl
  unfold pX1_rowAfter at hp
  refine lv_iload_n hx hb dX1_rowAfter_0 rfl (lv_at hl 2 rfl) ?_
  refine lv_if_lt (tgt := 22) hx hb dX1_rowAfter_1 (by decide) (fun c_1 => ?_) (fun c_1 => ?_)
  · have hp := hp.1 c_1
    refine lv_iload_n hx hb dX1_rowAfter_22 rfl (lv_at hl 1 rfl) ?_
    exact hR _ _ _ _ _ _ dX1_rowAfter_23 hp hS
  · have hp := hp.2 c_1
    refine lv_iload_n hx hb dX1_rowAfter_4 rfl (lv_at hl 2 rfl) ?_
    refine lv_aload_n hx hb dX1_rowAfter_5 rfl (lv_at hl 0 rfl) ?_
    refine G_40_1 hC hS m168 dX1_rowAfter_6 ?_
    refine GR_2 hC hS m705 dX1_rowAfter_9 ?_
    refine lv_icmp_ge (tgt := 22) hx hb dX1_rowAfter_12 (by decide) (fun c_2 => ?_) (fun c_2 => ?_)
    · have hp := hp.1 c_2
      refine lv_iload_n hx hb dX1_rowAfter_22 rfl (lv_at hl 1 rfl) ?_
      exact hR _ _ _ _ _ _ dX1_rowAfter_23 hp hS
    · have hp := hp.2 c_2
      refine lv_iload_n hx hb dX1_rowAfter_15 rfl (lv_at hl 3 rfl) ?_
      refine q_cnI (As := [.int x3]) (rest := []) hC hS hl.1 (rX10_isHeat hp) m700 m699 m2 hC.2.2.2.2.2.2.1 ysX10_isHeat rfl rfl (Nat.le_of_ble_eq_true rfl) (rmk (by decide) (by decide)) dX1_rowAfter_16 (fun r_3 w_4 H locs hp hS => ?_)
      refine lv_if_ne (tgt := 24) hx hb dX1_rowAfter_19 (by decide) (fun c_5 => ?_) (fun c_5 => ?_)
      · have hp := hp.1 c_5
        refine lv_iload_n hx hb dX1_rowAfter_24 rfl (lv_at hl 1 rfl) ?_
        refine lv_aload_n hx hb dX1_rowAfter_25 rfl (lv_at hl 0 rfl) ?_
        refine G_40_1 hC hS m168 dX1_rowAfter_26 ?_
        refine GR_0 hC hS m706 dX1_rowAfter_29 ?_
        refine q_cnI (As := [.int x1, .int (w_4.1 (rl (w_4.2.2.2.2 3)) 0)]) (rest := []) hC hS hl.1 (rX10_turn hp) m681 m680 m2 hC.2.2.2.2.2.2.2.1 ysX10_turn rfl rfl (Nat.le_of_ble_eq_true rfl) (rmk (by decide) (by decide)) dX1_rowAfter_32 (fun r_6 w_7 H locs hp hS => ?_)
        refine lv_istore (lv' := [(5, .int r_6), (0, .ref (g.2.2 40)), (1, .int x1), (2, .int x2), (3, .int x3), (4, .int x4)]) hx hb dX1_rowAfter_35 hl (by decide) rfl (fun ls hl => ?_)
        refine lv_iload hx hb dX1_rowAfter_37 (lv_at hl 0 rfl) ?_
        refine q_csI (As := [.int r_6]) (rest := []) hC hS hl.1 (rJ6_bitCount_0f7a4 hp) cwX1_53 ysJ6_bitCount_0f7a4 rfl rfl (Nat.le_of_ble_eq_true rfl) (rmk (by decide) (by decide)) dX1_rowAfter_39 (fun r_8 w_9 H locs hp hS => ?_)
        refine lv_istore (lv' := [(6, .int r_8), (5, .int r_6), (0, .ref (g.2.2 40)), (1, .int x1), (2, .int x2), (3, .int x3), (4, .int x4)]) hx hb dX1_rowAfter_42 hl (by decide) rfl (fun ls hl => ?_)
        refine lv_aload_n hx hb dX1_rowAfter_44 rfl (lv_at hl 2 rfl) ?_
        refine lv_iload_n hx hb dX1_rowAfter_45 rfl (lv_at hl 4 rfl) ?_
        refine lv_iload_n hx hb dX1_rowAfter_46 rfl (lv_at hl 5 rfl) ?_
        refine lv_iload hx hb dX1_rowAfter_47 (lv_at hl 6 rfl) ?_
        refine q_cvI (As := [.int x2, .int x3, .int x4]) (rest := []) hC hS hl.1 (rX1_setUp hp) cwX1_59 yvX1_setUp (rcv_40 hC hS) rfl rfl (Nat.le_of_ble_eq_true rfl) (rmk (by decide) (by decide)) dX1_rowAfter_49 (fun r_10 w_11 H locs hp hS => ?_)
        refine lv_istore (lv' := [(7, .int r_10), (6, .int r_8), (5, .int r_6), (0, .ref (g.2.2 40)), (1, .int x1), (2, .int x2), (3, .int x3), (4, .int x4)]) hx hb dX1_rowAfter_52 hl (by decide) rfl (fun ls hl => ?_)
        refine lv_aload_n hx hb dX1_rowAfter_54 rfl (lv_at hl 3 rfl) ?_
        refine G_40_1 hC hS m168 dX1_rowAfter_55 ?_
        refine lv_iload_n hx hb dX1_rowAfter_58 rfl (lv_at hl 5 rfl) ?_
        refine lv_iconst hx hb dX1_rowAfter_59 kI_4 ?_
        refine q_cvI (As := [.int x2, .int (4 : Int32)]) (rest := []) hC hS hl.1 (rX7_isUsed hp) cwX1_32 yvX7_isUsed (rcvR hC hS) rfl rfl (Nat.le_of_ble_eq_true rfl) (rmk (by decide) (by decide)) dX1_rowAfter_60 (fun r_12 w_13 H locs hp hS => ?_)
        refine lv_if_eq (tgt := 91) hx hb dX1_rowAfter_63 (by decide) (fun c_14 => ?_) (fun c_14 => ?_)
        · have hp := hp.1 c_14
          exact bX1_rowAfter_91 hC hR x2 r_6 r_10 w_13 _ _ _ hp hS (lv_sub hl [3, 5, 2, 0] rfl)
        · have hp := hp.2 c_14
          refine lv_iload hx hb dX1_rowAfter_66 (lv_at hl 1 rfl) ?_
          refine lv_bipush hx hb dX1_rowAfter_68 kB_12 ?_
          refine lv_icmp_gt (tgt := 91) hx hb dX1_rowAfter_70 (by decide) (fun c_15 => ?_) (fun c_15 => ?_)
          · have hp := hp.1 c_15
            exact bX1_rowAfter_91 hC hR x2 r_6 r_10 w_13 _ _ _ hp hS (lv_sub hl [3, 5, 2, 0] rfl)
          · have hp := hp.2 c_15
            refine lv_iload hx hb dX1_rowAfter_73 (lv_at hl 0 rfl) ?_
            refine lv_iload hx hb dX1_rowAfter_75 (lv_at hl 1 rfl) ?_
            refine lv_bipush hx hb dX1_rowAfter_77 kB_8 ?_
            refine lv_imul hx hb dX1_rowAfter_79 ?_
            refine lv_iadd hx hb dX1_rowAfter_80 ?_
            refine lv_topi (fun x7_16 ex7_16 => ?_)
            have hp := hp x7_16 ex7_16
            refine lv_istore (lv' := [(7, .int x7_16), (6, .int r_8), (5, .int r_6), (0, .ref (g.2.2 40)), (1, .int x1), (2, .int x2), (3, .int x3), (4, .int x4)]) hx hb dX1_rowAfter_81 hl (by decide) rfl (fun ls hl => ?_)
            refine lv_aload_n hx hb dX1_rowAfter_83 rfl (lv_at hl 3 rfl) ?_
            refine G_40_5 hC hS m172 dX1_rowAfter_84 ?_
            refine lv_iconst hx hb dX1_rowAfter_87 kI_4 ?_
            refine lv_iload hx hb dX1_rowAfter_88 (lv_at hl 1 rfl) ?_
            refine Sa_46 hC hS (by unfold vp_in; decide) dX1_rowAfter_90 (fun w_17 H locs ew_17 hS => ?_)
            have hp := hp w_17 ew_17
            exact bX1_rowAfter_91 hC hR x2 r_6 x7_16 w_17 _ _ _ hp hS (lv_sub hl [3, 5, 2, 0] rfl)
      · have hp := hp.2 c_5
        refine lv_iload_n hx hb dX1_rowAfter_22 rfl (lv_at hl 1 rfl) ?_
        exact hR _ _ _ _ _ _ dX1_rowAfter_23 hp hS
def pX10_would (post : Int32 → Wd → Prop) (x1 : Int32) (x2 : Int32) (x3 : Int32) (x4 : Int32) (w : Wd) : Prop := pX10_isRow (fun r_1 w_2 => (r_1 = 0 → (post (-1 : Int32) w_2)) ∧ (¬ r_1 = 0 → (pX10_isHand (fun r_4 w_5 => (r_4 = 0 → (post (-1 : Int32) w_5)) ∧ (¬ r_4 = 0 → (pX10_isHeat (fun r_7 w_8 => (r_7 = 0 → (post (-1 : Int32) w_8)) ∧ (¬ r_7 = 0 → ((x4 < 0 → (post (-1 : Int32) w_8)) ∧ (¬ x4 < 0 → ((x4 < (100 : Int32) → (pX1_rowAfter (fun r_12 w_13 => post r_12 w_13) x1 x2 x3 x4 w_8)) ∧ (¬ x4 < (100 : Int32) → (post (-1 : Int32) w_8))))))) x3 w_5))) x2 w_2))) x1 w
set_option maxHeartbeats 4000000 in
set_option maxRecDepth 100000 in
theorem rX10_would {l : Launch} {g : Gw} {w : Wd} {post : Int32 → Wd → Prop}   {x1 : Int32} {x2 : Int32} {x3 : Int32} {x4 : Int32} (hp : pX10_would post x1 x2 x3 x4 w) : MtI tabX l yX10_would cX10_would 5 (some .int) 5 g w [.ref (g.2.2 0), .int x1, .int x2, .int x3, .int x4] post := by
  refine q_entI tabX_nd (by decide) rfl (Nat.le_of_ble_eq_true rfl) ?_
  intro p e s m args below meth c A Q ls hC hR hS hl
  have hx := hC.1
  have hb := hC.2.1
  have hl : lv_has ls 5 [(0, .ref (g.2.2 0)), (1, .int x1), (2, .int x2), (3, .int x3), (4, .int x4)] := hl
  unfold pX10_would at hp
  refine lv_aload_n hx hb dX10_would_0 rfl (lv_at hl 0 rfl) ?_
  refine lv_iload_n hx hb dX10_would_1 rfl (lv_at hl 1 rfl) ?_
  refine q_cvI (As := [.int x1]) (rest := []) hC hS hl.1 (rX10_isRow hp) cwX10_180 yvX10_isRow (rcv_0 hC hS) rfl rfl (Nat.le_of_ble_eq_true rfl) (rmk (by decide) (by decide)) dX10_would_2 (fun r_1 w_2 H locs hp hS => ?_)
  refine lv_if_eq (tgt := 35) hx hb dX10_would_5 (by decide) (fun c_3 => ?_) (fun c_3 => ?_)
  · have hp := hp.1 c_3
    refine lv_iconst hx hb dX10_would_35 kI_m1 ?_
    exact hR _ _ _ _ _ _ dX10_would_36 hp hS
  · have hp := hp.2 c_3
    refine lv_aload_n hx hb dX10_would_8 rfl (lv_at hl 0 rfl) ?_
    refine lv_iload_n hx hb dX10_would_9 rfl (lv_at hl 2 rfl) ?_
    refine q_cvI (As := [.int x2]) (rest := []) hC hS hl.1 (rX10_isHand hp) cwX10_190 yvX10_isHand (rcv_0 hC hS) rfl rfl (Nat.le_of_ble_eq_true rfl) (rmk (by decide) (by decide)) dX10_would_10 (fun r_4 w_5 H locs hp hS => ?_)
    refine lv_if_eq (tgt := 35) hx hb dX10_would_13 (by decide) (fun c_6 => ?_) (fun c_6 => ?_)
    · have hp := hp.1 c_6
      refine lv_iconst hx hb dX10_would_35 kI_m1 ?_
      exact hR _ _ _ _ _ _ dX10_would_36 hp hS
    · have hp := hp.2 c_6
      refine lv_iload_n hx hb dX10_would_16 rfl (lv_at hl 3 rfl) ?_
      refine q_csI (As := [.int x3]) (rest := []) hC hS hl.1 (rX10_isHeat hp) cwX10_193 ysX10_isHeat rfl rfl (Nat.le_of_ble_eq_true rfl) (rmk (by decide) (by decide)) dX10_would_17 (fun r_7 w_8 H locs hp hS => ?_)
      refine lv_if_eq (tgt := 35) hx hb dX10_would_20 (by decide) (fun c_9 => ?_) (fun c_9 => ?_)
      · have hp := hp.1 c_9
        refine lv_iconst hx hb dX10_would_35 kI_m1 ?_
        exact hR _ _ _ _ _ _ dX10_would_36 hp hS
      · have hp := hp.2 c_9
        refine lv_iload hx hb dX10_would_23 (lv_at hl 4 rfl) ?_
        refine lv_if_lt (tgt := 35) hx hb dX10_would_25 (by decide) (fun c_10 => ?_) (fun c_10 => ?_)
        · have hp := hp.1 c_10
          refine lv_iconst hx hb dX10_would_35 kI_m1 ?_
          exact hR _ _ _ _ _ _ dX10_would_36 hp hS
        · have hp := hp.2 c_10
          refine lv_iload hx hb dX10_would_28 (lv_at hl 4 rfl) ?_
          refine lv_bipush hx hb dX10_would_30 kB_100 ?_
          refine lv_icmp_lt (tgt := 37) hx hb dX10_would_32 (by decide) (fun c_11 => ?_) (fun c_11 => ?_)
          · have hp := hp.1 c_11
            refine lv_aload_n hx hb dX10_would_37 rfl (lv_at hl 0 rfl) ?_
            refine G_0_4 hC hS m34 dX10_would_38 ?_
            refine lv_iload_n hx hb dX10_would_41 rfl (lv_at hl 1 rfl) ?_
            refine lv_iload_n hx hb dX10_would_42 rfl (lv_at hl 2 rfl) ?_
            refine lv_iload_n hx hb dX10_would_43 rfl (lv_at hl 3 rfl) ?_
            refine lv_iload hx hb dX10_would_44 (lv_at hl 4 rfl) ?_
            refine q_cvI (As := [.int x1, .int x2, .int x3, .int x4]) (rest := []) hC hS hl.1 (rX1_rowAfter hp) cwX10_196 yvX1_rowAfter (rcv_40 hC hS) rfl rfl (Nat.le_of_ble_eq_true rfl) (rmk (by decide) (by decide)) dX10_would_46 (fun r_12 w_13 H locs hp hS => ?_)
            exact hR _ _ _ _ _ _ dX10_would_49 hp hS
          · have hp := hp.2 c_11
            refine lv_iconst hx hb dX10_would_35 kI_m1 ?_
            exact hR _ _ _ _ _ _ dX10_would_36 hp hS
def pX0_dropOldest (post : Wd → Prop)  (w : Wd) : Prop := ∀ w_1, w_1 = sC w 53 (va_cpy (w.2.1 53) (w.2.1 53) 1 0 39) → ∀ w_2, w_2 = sC w_1 54 (va_cpy (w_1.2.1 54) (w_1.2.1 54) 1 0 39) → ∀ w_3, w_3 = sC w_2 55 (va_cpy (w_2.2.1 55) (w_2.2.1 55) 1 0 39) → ∀ w_4, w_4 = sC w_3 56 (va_cpy (w_3.2.1 56) (w_3.2.1 56) 1 0 39) → ∀ w_5, w_5 = sC w_4 57 (va_cpy (w_4.2.1 57) (w_4.2.1 57) 1 0 39) → ∀ w_6, w_6 = sI w_5 50 7 (39 : Int32) → post w_6
set_option maxHeartbeats 4000000 in
set_option maxRecDepth 100000 in
theorem rX0_dropOldest {l : Launch} {g : Gw} {w : Wd} {post : Wd → Prop}    (hp : pX0_dropOldest post  w) : MtV tabX l yX0_dropOldest cX0_dropOldest 1 none 1 g w [.ref (g.2.2 50)] post := by
  refine q_entV tabX_nd (by decide) rfl (Nat.le_of_ble_eq_true rfl) ?_
  intro p e s m args below meth c A Q ls hC hR hS hl
  have hx := hC.1
  have hb := hC.2.1
  have hl : lv_has ls 1 [(0, .ref (g.2.2 50))] := hl
  unfold pX0_dropOldest at hp
  refine lv_aload_n hx hb dX0_dropOldest_0 rfl (lv_at hl 0 rfl) ?_
  refine G_50_2 hC hS m179 dX0_dropOldest_1 ?_
  refine lv_iconst hx hb dX0_dropOldest_4 kI_1 ?_
  refine lv_aload_n hx hb dX0_dropOldest_5 rfl (lv_at hl 0 rfl) ?_
  refine G_50_2 hC hS m179 dX0_dropOldest_6 ?_
  refine lv_iconst hx hb dX0_dropOldest_9 kI_0 ?_
  refine lv_bipush hx hb dX0_dropOldest_10 kB_39 ?_
  refine Cp_53_53 hC hS hl.1 m795 m796 m797 m798 (by decide) (by decide) (by decide) (by decide) (by decide) (rmc (by decide) (Nat.le_of_ble_eq_true rfl)) dX0_dropOldest_12 (fun w_1 H locs ew_1 hS => ?_)
  have hp := hp w_1 ew_1
  refine lv_aload_n hx hb dX0_dropOldest_15 rfl (lv_at hl 0 rfl) ?_
  refine G_50_3 hC hS m180 dX0_dropOldest_16 ?_
  refine lv_iconst hx hb dX0_dropOldest_19 kI_1 ?_
  refine lv_aload_n hx hb dX0_dropOldest_20 rfl (lv_at hl 0 rfl) ?_
  refine G_50_3 hC hS m180 dX0_dropOldest_21 ?_
  refine lv_iconst hx hb dX0_dropOldest_24 kI_0 ?_
  refine lv_bipush hx hb dX0_dropOldest_25 kB_39 ?_
  refine Cp_54_54 hC hS hl.1 m795 m796 m797 m798 (by decide) (by decide) (by decide) (by decide) (by decide) (rmc (by decide) (Nat.le_of_ble_eq_true rfl)) dX0_dropOldest_27 (fun w_2 H locs ew_2 hS => ?_)
  have hp := hp w_2 ew_2
  refine lv_aload_n hx hb dX0_dropOldest_30 rfl (lv_at hl 0 rfl) ?_
  refine G_50_4 hC hS m181 dX0_dropOldest_31 ?_
  refine lv_iconst hx hb dX0_dropOldest_34 kI_1 ?_
  refine lv_aload_n hx hb dX0_dropOldest_35 rfl (lv_at hl 0 rfl) ?_
  refine G_50_4 hC hS m181 dX0_dropOldest_36 ?_
  refine lv_iconst hx hb dX0_dropOldest_39 kI_0 ?_
  refine lv_bipush hx hb dX0_dropOldest_40 kB_39 ?_
  refine Cp_55_55 hC hS hl.1 m795 m796 m797 m798 (by decide) (by decide) (by decide) (by decide) (by decide) (rmc (by decide) (Nat.le_of_ble_eq_true rfl)) dX0_dropOldest_42 (fun w_3 H locs ew_3 hS => ?_)
  have hp := hp w_3 ew_3
  refine lv_aload_n hx hb dX0_dropOldest_45 rfl (lv_at hl 0 rfl) ?_
  refine G_50_5 hC hS m182 dX0_dropOldest_46 ?_
  refine lv_iconst hx hb dX0_dropOldest_49 kI_1 ?_
  refine lv_aload_n hx hb dX0_dropOldest_50 rfl (lv_at hl 0 rfl) ?_
  refine G_50_5 hC hS m182 dX0_dropOldest_51 ?_
  refine lv_iconst hx hb dX0_dropOldest_54 kI_0 ?_
  refine lv_bipush hx hb dX0_dropOldest_55 kB_39 ?_
  refine Cp_56_56 hC hS hl.1 m795 m796 m797 m798 (by decide) (by decide) (by decide) (by decide) (by decide) (rmc (by decide) (Nat.le_of_ble_eq_true rfl)) dX0_dropOldest_57 (fun w_4 H locs ew_4 hS => ?_)
  have hp := hp w_4 ew_4
  refine lv_aload_n hx hb dX0_dropOldest_60 rfl (lv_at hl 0 rfl) ?_
  refine G_50_6 hC hS m183 dX0_dropOldest_61 ?_
  refine lv_iconst hx hb dX0_dropOldest_64 kI_1 ?_
  refine lv_aload_n hx hb dX0_dropOldest_65 rfl (lv_at hl 0 rfl) ?_
  refine G_50_6 hC hS m183 dX0_dropOldest_66 ?_
  refine lv_iconst hx hb dX0_dropOldest_69 kI_0 ?_
  refine lv_bipush hx hb dX0_dropOldest_70 kB_39 ?_
  refine Cp_57_57 hC hS hl.1 m795 m796 m797 m798 (by decide) (by decide) (by decide) (by decide) (by decide) (rmc (by decide) (Nat.le_of_ble_eq_true rfl)) dX0_dropOldest_72 (fun w_5 H locs ew_5 hS => ?_)
  have hp := hp w_5 ew_5
  refine lv_aload_n hx hb dX0_dropOldest_75 rfl (lv_at hl 0 rfl) ?_
  refine lv_bipush hx hb dX0_dropOldest_76 kB_39 ?_
  refine P_50_7 hC hS m247 dX0_dropOldest_78 (fun w_6 H locs ew_6 hS => ?_)
  have hp := hp w_6 ew_6
  exact hR _ _ _ _ _ dX0_dropOldest_81 hp hS
def pX2_addSeal (post : Wd → Prop) (x1 : Int32) (x2 : Int32) (x3 : Int32) (w : Wd) : Prop := ((w.1 160 0) < 0 → (post w)) ∧ (¬ (w.1 160 0) < 0 → (((24 : Int32) ≤ (w.1 160 0) → (post w)) ∧ (¬ (24 : Int32) ≤ (w.1 160 0) → ((x2 < 0 → (post w)) ∧ (¬ x2 < 0 → ((x2 < (w.1 160 0) → (vp_in (w.1 160 0) 24 ∧ ∀ w_5, w_5 = sA w 162 (w.1 160 0).toNatClampNeg x1 → vp_in (w_5.1 160 0) 24 ∧ ∀ w_6, w_6 = sA w_5 163 (w_5.1 160 0).toNatClampNeg x2 → vp_in (w_6.1 160 0) 24 ∧ ∀ w_7, w_7 = sA w_6 164 (w_6.1 160 0).toNatClampNeg x3 → vp_in (w_7.1 160 0) 24 ∧ ∀ w_8, w_8 = sA w_7 165 (w_7.1 160 0).toNatClampNeg (w_7.1 160 12) → vp_in x2 24 ∧ vp_in (w_8.1 160 0) 24 ∧ ∀ w_9, w_9 = sA w_8 166 (w_8.1 160 0).toNatClampNeg ((w_8.2.1 166 x2.toNatClampNeg) + (1 : Int32)) → ∀ w_10, w_10 = sI w_9 160 0 ((w_9.1 160 0) + (1 : Int32)) → post w_10)) ∧ (¬ x2 < (w.1 160 0) → (post w))))))))
set_option maxHeartbeats 4000000 in
set_option maxRecDepth 100000 in
theorem rX2_addSeal {l : Launch} {g : Gw} {w : Wd} {post : Wd → Prop}   {x1 : Int32} {x2 : Int32} {x3 : Int32} (hp : pX2_addSeal post x1 x2 x3 w) : MtV tabX l yX2_addSeal cX2_addSeal 4 none 1 g w [.ref (g.2.2 160), .int x1, .int x2, .int x3] post := by
  refine q_entV tabX_nd (by decide) rfl (Nat.le_of_ble_eq_true rfl) ?_
  intro p e s m args below meth c A Q ls hC hR hS hl
  have hx := hC.1
  have hb := hC.2.1
  have hl : lv_has ls 4 [(0, .ref (g.2.2 160)), (1, .int x1), (2, .int x2), (3, .int x3)] := hl
  unfold pX2_addSeal at hp
  refine lv_aload_n hx hb dX2_addSeal_0 rfl (lv_at hl 0 rfl) ?_
  refine G_160_0 hC hS m234 dX2_addSeal_1 ?_
  refine lv_if_lt (tgt := 28) hx hb dX2_addSeal_4 (by decide) (fun c_1 => ?_) (fun c_1 => ?_)
  · have hp := hp.1 c_1
    exact hR _ _ _ _ _ dX2_addSeal_28 hp hS
  · have hp := hp.2 c_1
    refine lv_aload_n hx hb dX2_addSeal_7 rfl (lv_at hl 0 rfl) ?_
    refine G_160_0 hC hS m234 dX2_addSeal_8 ?_
    refine lv_bipush hx hb dX2_addSeal_11 kB_24 ?_
    refine lv_icmp_ge (tgt := 28) hx hb dX2_addSeal_13 (by decide) (fun c_2 => ?_) (fun c_2 => ?_)
    · have hp := hp.1 c_2
      exact hR _ _ _ _ _ dX2_addSeal_28 hp hS
    · have hp := hp.2 c_2
      refine lv_iload_n hx hb dX2_addSeal_16 rfl (lv_at hl 2 rfl) ?_
      refine lv_if_lt (tgt := 28) hx hb dX2_addSeal_17 (by decide) (fun c_3 => ?_) (fun c_3 => ?_)
      · have hp := hp.1 c_3
        exact hR _ _ _ _ _ dX2_addSeal_28 hp hS
      · have hp := hp.2 c_3
        refine lv_iload_n hx hb dX2_addSeal_20 rfl (lv_at hl 2 rfl) ?_
        refine lv_aload_n hx hb dX2_addSeal_21 rfl (lv_at hl 0 rfl) ?_
        refine G_160_0 hC hS m234 dX2_addSeal_22 ?_
        refine lv_icmp_lt (tgt := 29) hx hb dX2_addSeal_25 (by decide) (fun c_4 => ?_) (fun c_4 => ?_)
        · have hp := hp.1 c_4
          refine lv_aload_n hx hb dX2_addSeal_29 rfl (lv_at hl 0 rfl) ?_
          refine G_160_1 hC hS m155 dX2_addSeal_30 ?_
          refine lv_aload_n hx hb dX2_addSeal_33 rfl (lv_at hl 0 rfl) ?_
          refine G_160_0 hC hS m234 dX2_addSeal_34 ?_
          refine lv_iload_n hx hb dX2_addSeal_37 rfl (lv_at hl 1 rfl) ?_
          refine Sa_162 hC hS hp.1 dX2_addSeal_38 (fun w_5 H locs ew_5 hS => ?_)
          have hp := hp.2
          have hp := hp w_5 ew_5
          refine lv_aload_n hx hb dX2_addSeal_39 rfl (lv_at hl 0 rfl) ?_
          refine G_160_2 hC hS m156 dX2_addSeal_40 ?_
          refine lv_aload_n hx hb dX2_addSeal_43 rfl (lv_at hl 0 rfl) ?_
          refine G_160_0 hC hS m234 dX2_addSeal_44 ?_
          refine lv_iload_n hx hb dX2_addSeal_47 rfl (lv_at hl 2 rfl) ?_
          refine Sa_163 hC hS hp.1 dX2_addSeal_48 (fun w_6 H locs ew_6 hS => ?_)
          have hp := hp.2
          have hp := hp w_6 ew_6
          refine lv_aload_n hx hb dX2_addSeal_49 rfl (lv_at hl 0 rfl) ?_
          refine G_160_3 hC hS m157 dX2_addSeal_50 ?_
          refine lv_aload_n hx hb dX2_addSeal_53 rfl (lv_at hl 0 rfl) ?_
          refine G_160_0 hC hS m234 dX2_addSeal_54 ?_
          refine lv_iload_n hx hb dX2_addSeal_57 rfl (lv_at hl 3 rfl) ?_
          refine Sa_164 hC hS hp.1 dX2_addSeal_58 (fun w_7 H locs ew_7 hS => ?_)
          have hp := hp.2
          have hp := hp w_7 ew_7
          refine lv_aload_n hx hb dX2_addSeal_59 rfl (lv_at hl 0 rfl) ?_
          refine G_160_4 hC hS m158 dX2_addSeal_60 ?_
          refine lv_aload_n hx hb dX2_addSeal_63 rfl (lv_at hl 0 rfl) ?_
          refine G_160_0 hC hS m234 dX2_addSeal_64 ?_
          refine lv_aload_n hx hb dX2_addSeal_67 rfl (lv_at hl 0 rfl) ?_
          refine G_160_12 hC hS m240 dX2_addSeal_68 ?_
          refine Sa_165 hC hS hp.1 dX2_addSeal_71 (fun w_8 H locs ew_8 hS => ?_)
          have hp := hp.2
          have hp := hp w_8 ew_8
          refine lv_aload_n hx hb dX2_addSeal_72 rfl (lv_at hl 0 rfl) ?_
          refine G_160_5 hC hS m159 dX2_addSeal_73 ?_
          refine lv_aload_n hx hb dX2_addSeal_76 rfl (lv_at hl 0 rfl) ?_
          refine G_160_0 hC hS m234 dX2_addSeal_77 ?_
          refine lv_aload_n hx hb dX2_addSeal_80 rfl (lv_at hl 0 rfl) ?_
          refine G_160_5 hC hS m159 dX2_addSeal_81 ?_
          refine lv_iload_n hx hb dX2_addSeal_84 rfl (lv_at hl 2 rfl) ?_
          refine La_166 hC hS hp.1 dX2_addSeal_85 ?_
          have hp := hp.2
          refine lv_iconst hx hb dX2_addSeal_86 kI_1 ?_
          refine lv_iadd hx hb dX2_addSeal_87 ?_
          refine Sa_166 hC hS hp.1 dX2_addSeal_88 (fun w_9 H locs ew_9 hS => ?_)
          have hp := hp.2
          have hp := hp w_9 ew_9
          refine lv_aload_n hx hb dX2_addSeal_89 rfl (lv_at hl 0 rfl) ?_
          refine lv_dup hx hb dX2_addSeal_90 rfl ?_
          refine G_160_0 hC hS m234 dX2_addSeal_91 ?_
          refine lv_iconst hx hb dX2_addSeal_94 kI_1 ?_
          refine lv_iadd hx hb dX2_addSeal_95 ?_
          refine P_160_0 hC hS m234 dX2_addSeal_96 (fun w_10 H locs ew_10 hS => ?_)
          have hp := hp w_10 ew_10
          exact hR _ _ _ _ _ dX2_addSeal_99 hp hS
        · have hp := hp.2 c_4
          exact hR _ _ _ _ _ dX2_addSeal_28 hp hS
def pX0_makeCast (post : Wd → Prop) (x1 : Int32) (x2 : Int32) (x3 : Int32) (w : Wd) : Prop := (x1 < 0 → (post w)) ∧ (¬ x1 < 0 → ((x1 < (w.1 160 0) → (∀ w_3, w_3 = sI w 160 13 ((((w.1 160 13) * (137 : Int32)) + (71 : Int32)) - (((w.1 160 13) * (137 : Int32)) + (71 : Int32)) / (1000 : Int32) * (1000 : Int32)) → vp_in x1 24 ∧ pX1_rowAfter (fun r_4 w_5 => pX2_addSeal (fun w_6 => ∀ w_7, w_7 = sI w_6 160 11 ((w_6.1 160 11) - ((1 : Int32) + x3)) → post w_7) r_4 x1 x2 w_5) (w_3.2.1 162 x1.toNatClampNeg) x2 x3 ((w_3.1 160 13) - (w_3.1 160 13) / (100 : Int32) * (100 : Int32)) w_3)) ∧ (¬ x1 < (w.1 160 0) → (post w))))
set_option maxHeartbeats 4000000 in
set_option maxRecDepth 100000 in
theorem rX0_makeCast {l : Launch} {g : Gw} {w : Wd} {post : Wd → Prop}   {x1 : Int32} {x2 : Int32} {x3 : Int32} (hp : pX0_makeCast post x1 x2 x3 w) : MtV tabX l yX0_makeCast cX0_makeCast 4 none 5 g w [.ref (g.2.2 50), .int x1, .int x2, .int x3] post := by
  refine q_entV tabX_nd (by decide) rfl (Nat.le_of_ble_eq_true rfl) ?_
  intro p e s m args below meth c A Q ls hC hR hS hl
  have hx := hC.1
  have hb := hC.2.1
  have hl : lv_has ls 4 [(0, .ref (g.2.2 50)), (1, .int x1), (2, .int x2), (3, .int x3)] := hl
  unfold pX0_makeCast at hp
  refine lv_iload_n hx hb dX0_makeCast_0 rfl (lv_at hl 1 rfl) ?_
  refine lv_if_lt (tgt := 15) hx hb dX0_makeCast_1 (by decide) (fun c_1 => ?_) (fun c_1 => ?_)
  · have hp := hp.1 c_1
    exact hR _ _ _ _ _ dX0_makeCast_15 hp hS
  · have hp := hp.2 c_1
    refine lv_iload_n hx hb dX0_makeCast_4 rfl (lv_at hl 1 rfl) ?_
    refine lv_aload_n hx hb dX0_makeCast_5 rfl (lv_at hl 0 rfl) ?_
    refine G_50_0 hC hS m177 dX0_makeCast_6 ?_
    refine G_160_0 hC hS m809 dX0_makeCast_9 ?_
    refine lv_icmp_lt (tgt := 16) hx hb dX0_makeCast_12 (by decide) (fun c_2 => ?_) (fun c_2 => ?_)
    · have hp := hp.1 c_2
      refine lv_aload_n hx hb dX0_makeCast_16 rfl (lv_at hl 0 rfl) ?_
      refine G_50_0 hC hS m177 dX0_makeCast_17 ?_
      refine lv_aload_n hx hb dX0_makeCast_20 rfl (lv_at hl 0 rfl) ?_
      refine G_50_0 hC hS m177 dX0_makeCast_21 ?_
      refine G_160_13 hC hS m790 dX0_makeCast_24 ?_
      refine lv_sipush hx hb dX0_makeCast_27 kS_137 ?_
      refine lv_imul hx hb dX0_makeCast_30 ?_
      refine lv_bipush hx hb dX0_makeCast_31 kB_71 ?_
      refine lv_iadd hx hb dX0_makeCast_33 ?_
      refine lv_sipush hx hb dX0_makeCast_34 kS_1000 ?_
      refine lv_irem hx hb dX0_makeCast_37 (by decide) ?_
      refine P_160_13 hC hS m790 dX0_makeCast_38 (fun w_3 H locs ew_3 hS => ?_)
      have hp := hp w_3 ew_3
      refine lv_aload_n hx hb dX0_makeCast_41 rfl (lv_at hl 0 rfl) ?_
      refine G_50_0 hC hS m177 dX0_makeCast_42 ?_
      refine lv_aload_n hx hb dX0_makeCast_45 rfl (lv_at hl 0 rfl) ?_
      refine G_50_1 hC hS m178 dX0_makeCast_46 ?_
      refine lv_aload_n hx hb dX0_makeCast_49 rfl (lv_at hl 0 rfl) ?_
      refine G_50_0 hC hS m177 dX0_makeCast_50 ?_
      refine G_160_1 hC hS m810 dX0_makeCast_53 ?_
      refine lv_iload_n hx hb dX0_makeCast_56 rfl (lv_at hl 1 rfl) ?_
      refine La_162 hC hS hp.1 dX0_makeCast_57 ?_
      have hp := hp.2
      refine lv_iload_n hx hb dX0_makeCast_58 rfl (lv_at hl 2 rfl) ?_
      refine lv_iload_n hx hb dX0_makeCast_59 rfl (lv_at hl 3 rfl) ?_
      refine lv_aload_n hx hb dX0_makeCast_60 rfl (lv_at hl 0 rfl) ?_
      refine G_50_0 hC hS m177 dX0_makeCast_61 ?_
      refine G_160_13 hC hS m790 dX0_makeCast_64 ?_
      refine lv_bipush hx hb dX0_makeCast_67 kB_100 ?_
      refine lv_irem hx hb dX0_makeCast_69 (by decide) ?_
      refine q_cvI (As := [.int (w_3.2.1 162 x1.toNatClampNeg), .int x2, .int x3, .int ((w_3.1 160 13) - (w_3.1 160 13) / (100 : Int32) * (100 : Int32))]) (rest := [.ref (g.2.2 160)]) hC hS hl.1 (rX1_rowAfter hp) cwX0_85 yvX1_rowAfter (rcv_40 hC hS) rfl rfl (Nat.le_of_ble_eq_true rfl) (rmk (by decide) (by decide)) dX0_makeCast_70 (fun r_4 w_5 H locs hp hS => ?_)
      refine lv_iload_n hx hb dX0_makeCast_73 rfl (lv_at hl 1 rfl) ?_
      refine lv_iload_n hx hb dX0_makeCast_74 rfl (lv_at hl 2 rfl) ?_
      refine q_cvV (As := [.int r_4, .int x1, .int x2]) (rest := []) hC hS hl.1 (rX2_addSeal hp) cwX0_91 yvX2_addSeal (rcv_160 hC hS) rfl rfl (Nat.le_of_ble_eq_true rfl) (rmk (by decide) (by decide)) dX0_makeCast_75 (fun w_6 H locs hp hS => ?_)
      refine lv_aload_n hx hb dX0_makeCast_78 rfl (lv_at hl 0 rfl) ?_
      refine G_50_0 hC hS m177 dX0_makeCast_79 ?_
      refine lv_dup hx hb dX0_makeCast_82 rfl ?_
      refine G_160_11 hC hS m803 dX0_makeCast_83 ?_
      refine lv_iconst hx hb dX0_makeCast_86 kI_1 ?_
      refine lv_iload_n hx hb dX0_makeCast_87 rfl (lv_at hl 3 rfl) ?_
      refine lv_iadd hx hb dX0_makeCast_88 ?_
      refine lv_isub hx hb dX0_makeCast_89 ?_
      refine P_160_11 hC hS m803 dX0_makeCast_90 (fun w_7 H locs ew_7 hS => ?_)
      have hp := hp w_7 ew_7
      exact hR _ _ _ _ _ dX0_makeCast_93 hp hS
    · have hp := hp.2 c_2
      exact hR _ _ _ _ _ dX0_makeCast_15 hp hS
def pX2_addPrint (post : Wd → Prop) (x1 : Int32) (w : Wd) : Prop := ((w.1 160 6) < 0 → (post w)) ∧ (¬ (w.1 160 6) < 0 → (((40 : Int32) ≤ (w.1 160 6) → (post w)) ∧ (¬ (40 : Int32) ≤ (w.1 160 6) → ((x1 < 0 → (post w)) ∧ (¬ x1 < 0 → ((x1 < (w.1 160 0) → (vp_in x1 24 ∧ pX10_turn (fun r_5 w_6 => vp_in (w.1 160 6) 40 ∧ ∀ w_7, w_7 = sA w_6 168 (w.1 160 6).toNatClampNeg r_5 → vp_in (w_7.1 160 6) 40 ∧ ∀ w_8, w_8 = sA w_7 169 (w_7.1 160 6).toNatClampNeg x1 → vp_in (w_8.1 160 6) 40 ∧ ∀ w_9, w_9 = sA w_8 170 (w_8.1 160 6).toNatClampNeg (w_8.1 160 12) → ∀ w_10, w_10 = sI w_9 160 6 ((w_9.1 160 6) + (1 : Int32)) → post w_10) (w.2.1 162 x1.toNatClampNeg) (w.1 160 10) w)) ∧ (¬ x1 < (w.1 160 0) → (post w))))))))
set_option maxHeartbeats 4000000 in
set_option maxRecDepth 100000 in
theorem rX2_addPrint {l : Launch} {g : Gw} {w : Wd} {post : Wd → Prop}   {x1 : Int32} (hp : pX2_addPrint post x1 w) : MtV tabX l yX2_addPrint cX2_addPrint 2 none 2 g w [.ref (g.2.2 160), .int x1] post := by
  refine q_entV tabX_nd (by decide) rfl (Nat.le_of_ble_eq_true rfl) ?_
  intro p e s m args below meth c A Q ls hC hR hS hl
  have hx := hC.1
  have hb := hC.2.1
  have hl : lv_has ls 2 [(0, .ref (g.2.2 160)), (1, .int x1)] := hl
  unfold pX2_addPrint at hp
  refine lv_aload_n hx hb dX2_addPrint_0 rfl (lv_at hl 0 rfl) ?_
  refine G_160_6 hC hS m235 dX2_addPrint_1 ?_
  refine lv_if_lt (tgt := 28) hx hb dX2_addPrint_4 (by decide) (fun c_1 => ?_) (fun c_1 => ?_)
  · have hp := hp.1 c_1
    exact hR _ _ _ _ _ dX2_addPrint_28 hp hS
  · have hp := hp.2 c_1
    refine lv_aload_n hx hb dX2_addPrint_7 rfl (lv_at hl 0 rfl) ?_
    refine G_160_6 hC hS m235 dX2_addPrint_8 ?_
    refine lv_bipush hx hb dX2_addPrint_11 kB_40 ?_
    refine lv_icmp_ge (tgt := 28) hx hb dX2_addPrint_13 (by decide) (fun c_2 => ?_) (fun c_2 => ?_)
    · have hp := hp.1 c_2
      exact hR _ _ _ _ _ dX2_addPrint_28 hp hS
    · have hp := hp.2 c_2
      refine lv_iload_n hx hb dX2_addPrint_16 rfl (lv_at hl 1 rfl) ?_
      refine lv_if_lt (tgt := 28) hx hb dX2_addPrint_17 (by decide) (fun c_3 => ?_) (fun c_3 => ?_)
      · have hp := hp.1 c_3
        exact hR _ _ _ _ _ dX2_addPrint_28 hp hS
      · have hp := hp.2 c_3
        refine lv_iload_n hx hb dX2_addPrint_20 rfl (lv_at hl 1 rfl) ?_
        refine lv_aload_n hx hb dX2_addPrint_21 rfl (lv_at hl 0 rfl) ?_
        refine G_160_0 hC hS m234 dX2_addPrint_22 ?_
        refine lv_icmp_lt (tgt := 29) hx hb dX2_addPrint_25 (by decide) (fun c_4 => ?_) (fun c_4 => ?_)
        · have hp := hp.1 c_4
          refine lv_aload_n hx hb dX2_addPrint_29 rfl (lv_at hl 0 rfl) ?_
          refine G_160_7 hC hS m160 dX2_addPrint_30 ?_
          refine lv_aload_n hx hb dX2_addPrint_33 rfl (lv_at hl 0 rfl) ?_
          refine G_160_6 hC hS m235 dX2_addPrint_34 ?_
          refine lv_aload_n hx hb dX2_addPrint_37 rfl (lv_at hl 0 rfl) ?_
          refine G_160_1 hC hS m155 dX2_addPrint_38 ?_
          refine lv_iload_n hx hb dX2_addPrint_41 rfl (lv_at hl 1 rfl) ?_
          refine La_162 hC hS hp.1 dX2_addPrint_42 ?_
          have hp := hp.2
          refine lv_aload_n hx hb dX2_addPrint_43 rfl (lv_at hl 0 rfl) ?_
          refine G_160_10 hC hS m237 dX2_addPrint_44 ?_
          refine q_cnI (As := [.int (w.2.1 162 x1.toNatClampNeg), .int (w.1 160 10)]) (rest := [.int (w.1 160 6), .ref (g.2.2 168)]) hC hS hl.1 (rX10_turn hp) m681 m680 m2 hC.2.2.2.2.2.2.2.2.1 ysX10_turn rfl rfl (Nat.le_of_ble_eq_true rfl) (rmk (by decide) (by decide)) dX2_addPrint_47 (fun r_5 w_6 H locs hp hS => ?_)
          refine Sa_168 hC hS hp.1 dX2_addPrint_50 (fun w_7 H locs ew_7 hS => ?_)
          have hp := hp.2
          have hp := hp w_7 ew_7
          refine lv_aload_n hx hb dX2_addPrint_51 rfl (lv_at hl 0 rfl) ?_
          refine G_160_8 hC hS m161 dX2_addPrint_52 ?_
          refine lv_aload_n hx hb dX2_addPrint_55 rfl (lv_at hl 0 rfl) ?_
          refine G_160_6 hC hS m235 dX2_addPrint_56 ?_
          refine lv_iload_n hx hb dX2_addPrint_59 rfl (lv_at hl 1 rfl) ?_
          refine Sa_169 hC hS hp.1 dX2_addPrint_60 (fun w_8 H locs ew_8 hS => ?_)
          have hp := hp.2
          have hp := hp w_8 ew_8
          refine lv_aload_n hx hb dX2_addPrint_61 rfl (lv_at hl 0 rfl) ?_
          refine G_160_9 hC hS m162 dX2_addPrint_62 ?_
          refine lv_aload_n hx hb dX2_addPrint_65 rfl (lv_at hl 0 rfl) ?_
          refine G_160_6 hC hS m235 dX2_addPrint_66 ?_
          refine lv_aload_n hx hb dX2_addPrint_69 rfl (lv_at hl 0 rfl) ?_
          refine G_160_12 hC hS m240 dX2_addPrint_70 ?_
          refine Sa_170 hC hS hp.1 dX2_addPrint_73 (fun w_9 H locs ew_9 hS => ?_)
          have hp := hp.2
          have hp := hp w_9 ew_9
          refine lv_aload_n hx hb dX2_addPrint_74 rfl (lv_at hl 0 rfl) ?_
          refine lv_dup hx hb dX2_addPrint_75 rfl ?_
          refine G_160_6 hC hS m235 dX2_addPrint_76 ?_
          refine lv_iconst hx hb dX2_addPrint_79 kI_1 ?_
          refine lv_iadd hx hb dX2_addPrint_80 ?_
          refine P_160_6 hC hS m235 dX2_addPrint_81 (fun w_10 H locs ew_10 hS => ?_)
          have hp := hp w_10 ew_10
          exact hR _ _ _ _ _ dX2_addPrint_84 hp hS
        · have hp := hp.2 c_4
          exact hR _ _ _ _ _ dX2_addPrint_28 hp hS
def pX2_flip (post : Wd → Prop) (x1 : Int32) (x2 : Int32) (w : Wd) : Prop := (x1 < 0 → (post w)) ∧ (¬ x1 < 0 → (((w.1 160 0) ≤ x1 → (post w)) ∧ (¬ (w.1 160 0) ≤ x1 → (vp_in x1 24 ∧ vp_in x1 24 ∧ ∀ w_3, w_3 = sA w 162 x1.toNatClampNeg ((w.2.1 162 x1.toNatClampNeg) ^^^ ((1 : Int32) <<< (x2 &&& 31))) → post w_3))))
set_option maxHeartbeats 4000000 in
set_option maxRecDepth 100000 in
theorem rX2_flip {l : Launch} {g : Gw} {w : Wd} {post : Wd → Prop}   {x1 : Int32} {x2 : Int32} (hp : pX2_flip post x1 x2 w) : MtV tabX l yX2_flip cX2_flip 3 none 1 g w [.ref (g.2.2 160), .int x1, .int x2] post := by
  refine q_entV tabX_nd (by decide) rfl (Nat.le_of_ble_eq_true rfl) ?_
  intro p e s m args below meth c A Q ls hC hR hS hl
  have hx := hC.1
  have hb := hC.2.1
  have hl : lv_has ls 3 [(0, .ref (g.2.2 160)), (1, .int x1), (2, .int x2)] := hl
  unfold pX2_flip at hp
  refine lv_iload_n hx hb dX2_flip_0 rfl (lv_at hl 1 rfl) ?_
  refine lv_if_lt (tgt := 24) hx hb dX2_flip_1 (by decide) (fun c_1 => ?_) (fun c_1 => ?_)
  · have hp := hp.1 c_1
    exact hR _ _ _ _ _ dX2_flip_24 hp hS
  · have hp := hp.2 c_1
    refine lv_iload_n hx hb dX2_flip_4 rfl (lv_at hl 1 rfl) ?_
    refine lv_aload_n hx hb dX2_flip_5 rfl (lv_at hl 0 rfl) ?_
    refine G_160_0 hC hS m234 dX2_flip_6 ?_
    refine lv_icmp_ge (tgt := 24) hx hb dX2_flip_9 (by decide) (fun c_2 => ?_) (fun c_2 => ?_)
    · have hp := hp.1 c_2
      exact hR _ _ _ _ _ dX2_flip_24 hp hS
    · have hp := hp.2 c_2
      refine lv_aload_n hx hb dX2_flip_12 rfl (lv_at hl 0 rfl) ?_
      refine G_160_1 hC hS m155 dX2_flip_13 ?_
      refine lv_iload_n hx hb dX2_flip_16 rfl (lv_at hl 1 rfl) ?_
      refine lv_dup2_11 hx hb dX2_flip_17 rfl rfl ?_
      refine La_162 hC hS hp.1 dX2_flip_18 ?_
      have hp := hp.2
      refine lv_iconst hx hb dX2_flip_19 kI_1 ?_
      refine lv_iload_n hx hb dX2_flip_20 rfl (lv_at hl 2 rfl) ?_
      refine lv_ishl hx hb dX2_flip_21 ?_
      refine lv_ixor hx hb dX2_flip_22 ?_
      refine Sa_162 hC hS hp.1 dX2_flip_23 (fun w_3 H locs ew_3 hS => ?_)
      have hp := hp.2
      have hp := hp w_3 ew_3
      exact hR _ _ _ _ _ dX2_flip_24 hp hS
def pX0_perform (post : Wd → Prop) (x1 : Int32) (w : Wd) : Prop := vp_in x1 40 ∧ ((w.2.1 53 x1.toNatClampNeg).toInt < 0 ∨ 2 < (w.2.1 53 x1.toNatClampNeg).toInt → (∀ w_2, w_2 = sI w 160 12 ((w.1 160 12) + (1 : Int32)) → post w_2)) ∧ ((w.2.1 53 x1.toNatClampNeg).toInt = 0 → (vp_in x1 40 ∧ vp_in x1 40 ∧ vp_in x1 40 ∧ pX0_makeCast (fun w_3 => post w_3) (w.2.1 54 x1.toNatClampNeg) (w.2.1 55 x1.toNatClampNeg) (w.2.1 56 x1.toNatClampNeg) w)) ∧ ((w.2.1 53 x1.toNatClampNeg).toInt = 1 → (vp_in x1 40 ∧ pX2_addPrint (fun w_4 => ∀ w_5, w_5 = sI w_4 160 11 ((w_4.1 160 11) - (1 : Int32)) → post w_5) (w.2.1 54 x1.toNatClampNeg) w)) ∧ ((w.2.1 53 x1.toNatClampNeg).toInt = 2 → (vp_in x1 40 ∧ vp_in x1 40 ∧ pX2_flip (fun w_6 => post w_6) (w.2.1 54 x1.toNatClampNeg) (w.2.1 55 x1.toNatClampNeg) w))
set_option maxHeartbeats 4000000 in
set_option maxRecDepth 100000 in
theorem rX0_perform {l : Launch} {g : Gw} {w : Wd} {post : Wd → Prop}   {x1 : Int32} (hp : pX0_perform post x1 w) : MtV tabX l yX0_perform cX0_perform 2 none 6 g w [.ref (g.2.2 50), .int x1] post := by
  refine q_entV tabX_nd (by decide) rfl (Nat.le_of_ble_eq_true rfl) ?_
  intro p e s m args below meth c A Q ls hC hR hS hl
  have hx := hC.1
  have hb := hC.2.1
  have hl : lv_has ls 2 [(0, .ref (g.2.2 50)), (1, .int x1)] := hl
  unfold pX0_perform at hp
  refine lv_aload_n hx hb dX0_perform_0 rfl (lv_at hl 0 rfl) ?_
  refine G_50_2 hC hS m179 dX0_perform_1 ?_
  refine lv_iload_n hx hb dX0_perform_4 rfl (lv_at hl 1 rfl) ?_
  refine La_53 hC hS hp.1 dX0_perform_5 ?_
  have hp := hp.2
  by_cases c_1 : (w.2.1 53 x1.toNatClampNeg).toInt < 0 ∨ 2 < (w.2.1 53 x1.toNatClampNeg).toInt
  · have hp := hp.1 c_1
    refine lv_tableOut (tgt := 108) hx hb dX0_perform_6 c_1 (by decide) ?_
    refine lv_aload_n hx hb dX0_perform_108 rfl (lv_at hl 0 rfl) ?_
    refine G_50_0 hC hS m177 dX0_perform_109 ?_
    refine lv_dup hx hb dX0_perform_112 rfl ?_
    refine G_160_12 hC hS m804 dX0_perform_113 ?_
    refine lv_iconst hx hb dX0_perform_116 kI_1 ?_
    refine lv_iadd hx hb dX0_perform_117 ?_
    refine P_160_12 hC hS m804 dX0_perform_118 (fun w_2 H locs ew_2 hS => ?_)
    have hp := hp w_2 ew_2
    exact hR _ _ _ _ _ dX0_perform_121 hp hS
  · have hp := hp.2
    have c_11 : ¬ (w.2.1 53 x1.toNatClampNeg).toInt < 0 := fun z => c_1 (Or.inl z)
    have c_12 : ¬ 2 < (w.2.1 53 x1.toNatClampNeg).toInt := fun z => c_1 (Or.inr z)
    rcases (show (w.2.1 53 x1.toNatClampNeg).toInt = 0 ∨ (w.2.1 53 x1.toNatClampNeg).toInt = 1 ∨ (w.2.1 53 x1.toNatClampNeg).toInt = 2 by omega) with c_13 | c_13 | c_13
    · have hp := hp.1 c_13
      refine lv_tableIn (tgt := 32) hx hb dX0_perform_6 c_11 c_12 (by rw [c_13]; rfl) (by decide) ?_
      refine lv_aload_n hx hb dX0_perform_32 rfl (lv_at hl 0 rfl) ?_
      refine lv_aload_n hx hb dX0_perform_33 rfl (lv_at hl 0 rfl) ?_
      refine G_50_3 hC hS m180 dX0_perform_34 ?_
      refine lv_iload_n hx hb dX0_perform_37 rfl (lv_at hl 1 rfl) ?_
      refine La_54 hC hS hp.1 dX0_perform_38 ?_
      have hp := hp.2
      refine lv_aload_n hx hb dX0_perform_39 rfl (lv_at hl 0 rfl) ?_
      refine G_50_4 hC hS m181 dX0_perform_40 ?_
      refine lv_iload_n hx hb dX0_perform_43 rfl (lv_at hl 1 rfl) ?_
      refine La_55 hC hS hp.1 dX0_perform_44 ?_
      have hp := hp.2
      refine lv_aload_n hx hb dX0_perform_45 rfl (lv_at hl 0 rfl) ?_
      refine G_50_5 hC hS m182 dX0_perform_46 ?_
      refine lv_iload_n hx hb dX0_perform_49 rfl (lv_at hl 1 rfl) ?_
      refine La_56 hC hS hp.1 dX0_perform_50 ?_
      have hp := hp.2
      refine q_cvV (As := [.int (w.2.1 54 x1.toNatClampNeg), .int (w.2.1 55 x1.toNatClampNeg), .int (w.2.1 56 x1.toNatClampNeg)]) (rest := []) hC hS hl.1 (rX0_makeCast hp) cwX0_63 yvX0_makeCast (rcv_50 hC hS) rfl rfl (Nat.le_of_ble_eq_true rfl) (rmk (by decide) (by decide)) dX0_perform_51 (fun w_3 H locs hp hS => ?_)
      refine lv_goto (tgt := 121) hx hb dX0_perform_54 (by decide) ?_
      exact hR _ _ _ _ _ dX0_perform_121 hp hS
    · have hp := hp.2.1 c_13
      refine lv_tableIn (tgt := 57) hx hb dX0_perform_6 c_11 c_12 (by rw [c_13]; rfl) (by decide) ?_
      refine lv_aload_n hx hb dX0_perform_57 rfl (lv_at hl 0 rfl) ?_
      refine G_50_0 hC hS m177 dX0_perform_58 ?_
      refine lv_aload_n hx hb dX0_perform_61 rfl (lv_at hl 0 rfl) ?_
      refine G_50_3 hC hS m180 dX0_perform_62 ?_
      refine lv_iload_n hx hb dX0_perform_65 rfl (lv_at hl 1 rfl) ?_
      refine La_54 hC hS hp.1 dX0_perform_66 ?_
      have hp := hp.2
      refine q_cvV (As := [.int (w.2.1 54 x1.toNatClampNeg)]) (rest := []) hC hS hl.1 (rX2_addPrint hp) cwX0_67 yvX2_addPrint (rcv_160 hC hS) rfl rfl (Nat.le_of_ble_eq_true rfl) (rmk (by decide) (by decide)) dX0_perform_67 (fun w_4 H locs hp hS => ?_)
      refine lv_aload_n hx hb dX0_perform_70 rfl (lv_at hl 0 rfl) ?_
      refine G_50_0 hC hS m177 dX0_perform_71 ?_
      refine lv_dup hx hb dX0_perform_74 rfl ?_
      refine G_160_11 hC hS m803 dX0_perform_75 ?_
      refine lv_iconst hx hb dX0_perform_78 kI_1 ?_
      refine lv_isub hx hb dX0_perform_79 ?_
      refine P_160_11 hC hS m803 dX0_perform_80 (fun w_5 H locs ew_5 hS => ?_)
      have hp := hp w_5 ew_5
      refine lv_goto (tgt := 121) hx hb dX0_perform_83 (by decide) ?_
      exact hR _ _ _ _ _ dX0_perform_121 hp hS
    · have hp := hp.2.2 c_13
      refine lv_tableIn (tgt := 86) hx hb dX0_perform_6 c_11 c_12 (by rw [c_13]; rfl) (by decide) ?_
      refine lv_aload_n hx hb dX0_perform_86 rfl (lv_at hl 0 rfl) ?_
      refine G_50_0 hC hS m177 dX0_perform_87 ?_
      refine lv_aload_n hx hb dX0_perform_90 rfl (lv_at hl 0 rfl) ?_
      refine G_50_3 hC hS m180 dX0_perform_91 ?_
      refine lv_iload_n hx hb dX0_perform_94 rfl (lv_at hl 1 rfl) ?_
      refine La_54 hC hS hp.1 dX0_perform_95 ?_
      have hp := hp.2
      refine lv_aload_n hx hb dX0_perform_96 rfl (lv_at hl 0 rfl) ?_
      refine G_50_4 hC hS m181 dX0_perform_97 ?_
      refine lv_iload_n hx hb dX0_perform_100 rfl (lv_at hl 1 rfl) ?_
      refine La_55 hC hS hp.1 dX0_perform_101 ?_
      have hp := hp.2
      refine q_cvV (As := [.int (w.2.1 54 x1.toNatClampNeg), .int (w.2.1 55 x1.toNatClampNeg)]) (rest := []) hC hS hl.1 (rX2_flip hp) cwX0_73 yvX2_flip (rcv_160 hC hS) rfl rfl (Nat.le_of_ble_eq_true rfl) (rmk (by decide) (by decide)) dX0_perform_102 (fun w_6 H locs hp hS => ?_)
      refine lv_goto (tgt := 121) hx hb dX0_perform_105 (by decide) ?_
      exact hR _ _ _ _ _ dX0_perform_121 hp hS

set_option maxHeartbeats 4000000 in
set_option maxRecDepth 100000 in
theorem cJ_bitCount (l : Launch) (D : va_G) (cI cZ cS : ClassId) (x : Int32)  : CO l D (TY cI cZ cS) yJ6_bitCount_0f7a4 cJ6_bitCount_0f7a4 1 (some .int) 0 0 0 0 [.int x] [] (σ := Unit) (fun u => some (.int (bcI x))) (fun u => []) (fun u => True) := by
  refine CO_mki (by decide +kernel) (Nat.le_of_ble_eq_true rfl) (fun K ok ret => ?_)
  show XX K [] [(0, .int x)] 0 []
  refine x_iload_n ok 0 dJ6_bitCount_0f7a4_0 rfl rfl ?_
  refine x_iload_n ok 0 dJ6_bitCount_0f7a4_1 rfl rfl ?_
  refine x_iconst ok (nI 1) dJ6_bitCount_0f7a4_2 (by decide) ?_
  refine x_iushr ok (((x.toUInt32 >>> ((nI 1).toUInt32 &&& Int32.toUInt32 31)).toInt32)) dJ6_bitCount_0f7a4_3 (rfl) ?_
  refine x_ldcw ok KJ6_265 dJ6_bitCount_0f7a4_4 ?_
  refine x_iand ok ((((x.toUInt32 >>> ((nI 1).toUInt32 &&& Int32.toUInt32 31)).toInt32) &&& (1431655765))) dJ6_bitCount_0f7a4_7 (rfl) ?_
  refine x_isub ok ((x - (((x.toUInt32 >>> ((nI 1).toUInt32 &&& Int32.toUInt32 31)).toInt32) &&& (1431655765)))) dJ6_bitCount_0f7a4_8 (rfl) ?_
  refine x_istore_n ok (lv' := [(0, .int (x - (((x.toUInt32 >>> ((nI 1).toUInt32 &&& Int32.toUInt32 31)).toInt32) &&& (1431655765))))]) dJ6_bitCount_0f7a4_9 rfl (by decide) rfl ?_
  refine x_iload_n ok 0 dJ6_bitCount_0f7a4_10 rfl rfl ?_
  refine x_ldcw ok KJ6_266 dJ6_bitCount_0f7a4_11 ?_
  refine x_iand ok (((x - (((x.toUInt32 >>> ((nI 1).toUInt32 &&& Int32.toUInt32 31)).toInt32) &&& (1431655765))) &&& (858993459))) dJ6_bitCount_0f7a4_14 (rfl) ?_
  refine x_iload_n ok 0 dJ6_bitCount_0f7a4_15 rfl rfl ?_
  refine x_iconst ok (nI 2) dJ6_bitCount_0f7a4_16 (by decide) ?_
  refine x_iushr ok ((((x - (((x.toUInt32 >>> ((nI 1).toUInt32 &&& Int32.toUInt32 31)).toInt32) &&& (1431655765))).toUInt32 >>> ((nI 2).toUInt32 &&& Int32.toUInt32 31)).toInt32)) dJ6_bitCount_0f7a4_17 (rfl) ?_
  refine x_ldcw ok KJ6_266 dJ6_bitCount_0f7a4_18 ?_
  refine x_iand ok (((((x - (((x.toUInt32 >>> ((nI 1).toUInt32 &&& Int32.toUInt32 31)).toInt32) &&& (1431655765))).toUInt32 >>> ((nI 2).toUInt32 &&& Int32.toUInt32 31)).toInt32) &&& (858993459))) dJ6_bitCount_0f7a4_21 (rfl) ?_
  refine x_iadd ok ((((x - (((x.toUInt32 >>> ((nI 1).toUInt32 &&& Int32.toUInt32 31)).toInt32) &&& (1431655765))) &&& (858993459)) + ((((x - (((x.toUInt32 >>> ((nI 1).toUInt32 &&& Int32.toUInt32 31)).toInt32) &&& (1431655765))).toUInt32 >>> ((nI 2).toUInt32 &&& Int32.toUInt32 31)).toInt32) &&& (858993459)))) dJ6_bitCount_0f7a4_22 (rfl) ?_
  refine x_istore_n ok (lv' := [(0, .int (((x - (((x.toUInt32 >>> ((nI 1).toUInt32 &&& Int32.toUInt32 31)).toInt32) &&& (1431655765))) &&& (858993459)) + ((((x - (((x.toUInt32 >>> ((nI 1).toUInt32 &&& Int32.toUInt32 31)).toInt32) &&& (1431655765))).toUInt32 >>> ((nI 2).toUInt32 &&& Int32.toUInt32 31)).toInt32) &&& (858993459))))]) dJ6_bitCount_0f7a4_23 rfl (by decide) rfl ?_
  refine x_iload_n ok 0 dJ6_bitCount_0f7a4_24 rfl rfl ?_
  refine x_iload_n ok 0 dJ6_bitCount_0f7a4_25 rfl rfl ?_
  refine x_iconst ok (nI 4) dJ6_bitCount_0f7a4_26 (by decide) ?_
  refine x_iushr ok ((((((x - (((x.toUInt32 >>> ((nI 1).toUInt32 &&& Int32.toUInt32 31)).toInt32) &&& (1431655765))) &&& (858993459)) + ((((x - (((x.toUInt32 >>> ((nI 1).toUInt32 &&& Int32.toUInt32 31)).toInt32) &&& (1431655765))).toUInt32 >>> ((nI 2).toUInt32 &&& Int32.toUInt32 31)).toInt32) &&& (858993459))).toUInt32 >>> ((nI 4).toUInt32 &&& Int32.toUInt32 31)).toInt32)) dJ6_bitCount_0f7a4_27 (rfl) ?_
  refine x_iadd ok (((((x - (((x.toUInt32 >>> ((nI 1).toUInt32 &&& Int32.toUInt32 31)).toInt32) &&& (1431655765))) &&& (858993459)) + ((((x - (((x.toUInt32 >>> ((nI 1).toUInt32 &&& Int32.toUInt32 31)).toInt32) &&& (1431655765))).toUInt32 >>> ((nI 2).toUInt32 &&& Int32.toUInt32 31)).toInt32) &&& (858993459))) + (((((x - (((x.toUInt32 >>> ((nI 1).toUInt32 &&& Int32.toUInt32 31)).toInt32) &&& (1431655765))) &&& (858993459)) + ((((x - (((x.toUInt32 >>> ((nI 1).toUInt32 &&& Int32.toUInt32 31)).toInt32) &&& (1431655765))).toUInt32 >>> ((nI 2).toUInt32 &&& Int32.toUInt32 31)).toInt32) &&& (858993459))).toUInt32 >>> ((nI 4).toUInt32 &&& Int32.toUInt32 31)).toInt32))) dJ6_bitCount_0f7a4_28 (rfl) ?_
  refine x_ldcw ok KJ6_267 dJ6_bitCount_0f7a4_29 ?_
  refine x_iand ok ((((((x - (((x.toUInt32 >>> ((nI 1).toUInt32 &&& Int32.toUInt32 31)).toInt32) &&& (1431655765))) &&& (858993459)) + ((((x - (((x.toUInt32 >>> ((nI 1).toUInt32 &&& Int32.toUInt32 31)).toInt32) &&& (1431655765))).toUInt32 >>> ((nI 2).toUInt32 &&& Int32.toUInt32 31)).toInt32) &&& (858993459))) + (((((x - (((x.toUInt32 >>> ((nI 1).toUInt32 &&& Int32.toUInt32 31)).toInt32) &&& (1431655765))) &&& (858993459)) + ((((x - (((x.toUInt32 >>> ((nI 1).toUInt32 &&& Int32.toUInt32 31)).toInt32) &&& (1431655765))).toUInt32 >>> ((nI 2).toUInt32 &&& Int32.toUInt32 31)).toInt32) &&& (858993459))).toUInt32 >>> ((nI 4).toUInt32 &&& Int32.toUInt32 31)).toInt32)) &&& (252645135))) dJ6_bitCount_0f7a4_32 (rfl) ?_
  refine x_istore_n ok (lv' := [(0, .int (((((x - (((x.toUInt32 >>> ((nI 1).toUInt32 &&& Int32.toUInt32 31)).toInt32) &&& (1431655765))) &&& (858993459)) + ((((x - (((x.toUInt32 >>> ((nI 1).toUInt32 &&& Int32.toUInt32 31)).toInt32) &&& (1431655765))).toUInt32 >>> ((nI 2).toUInt32 &&& Int32.toUInt32 31)).toInt32) &&& (858993459))) + (((((x - (((x.toUInt32 >>> ((nI 1).toUInt32 &&& Int32.toUInt32 31)).toInt32) &&& (1431655765))) &&& (858993459)) + ((((x - (((x.toUInt32 >>> ((nI 1).toUInt32 &&& Int32.toUInt32 31)).toInt32) &&& (1431655765))).toUInt32 >>> ((nI 2).toUInt32 &&& Int32.toUInt32 31)).toInt32) &&& (858993459))).toUInt32 >>> ((nI 4).toUInt32 &&& Int32.toUInt32 31)).toInt32)) &&& (252645135)))]) dJ6_bitCount_0f7a4_33 rfl (by decide) rfl ?_
  refine x_iload_n ok 0 dJ6_bitCount_0f7a4_34 rfl rfl ?_
  refine x_iload_n ok 0 dJ6_bitCount_0f7a4_35 rfl rfl ?_
  refine x_bipush ok (nI 8) dJ6_bitCount_0f7a4_36 (by decide) ?_
  refine x_iushr ok ((((((((x - (((x.toUInt32 >>> ((nI 1).toUInt32 &&& Int32.toUInt32 31)).toInt32) &&& (1431655765))) &&& (858993459)) + ((((x - (((x.toUInt32 >>> ((nI 1).toUInt32 &&& Int32.toUInt32 31)).toInt32) &&& (1431655765))).toUInt32 >>> ((nI 2).toUInt32 &&& Int32.toUInt32 31)).toInt32) &&& (858993459))) + (((((x - (((x.toUInt32 >>> ((nI 1).toUInt32 &&& Int32.toUInt32 31)).toInt32) &&& (1431655765))) &&& (858993459)) + ((((x - (((x.toUInt32 >>> ((nI 1).toUInt32 &&& Int32.toUInt32 31)).toInt32) &&& (1431655765))).toUInt32 >>> ((nI 2).toUInt32 &&& Int32.toUInt32 31)).toInt32) &&& (858993459))).toUInt32 >>> ((nI 4).toUInt32 &&& Int32.toUInt32 31)).toInt32)) &&& (252645135)).toUInt32 >>> ((nI 8).toUInt32 &&& Int32.toUInt32 31)).toInt32)) dJ6_bitCount_0f7a4_38 (rfl) ?_
  refine x_iadd ok (((((((x - (((x.toUInt32 >>> ((nI 1).toUInt32 &&& Int32.toUInt32 31)).toInt32) &&& (1431655765))) &&& (858993459)) + ((((x - (((x.toUInt32 >>> ((nI 1).toUInt32 &&& Int32.toUInt32 31)).toInt32) &&& (1431655765))).toUInt32 >>> ((nI 2).toUInt32 &&& Int32.toUInt32 31)).toInt32) &&& (858993459))) + (((((x - (((x.toUInt32 >>> ((nI 1).toUInt32 &&& Int32.toUInt32 31)).toInt32) &&& (1431655765))) &&& (858993459)) + ((((x - (((x.toUInt32 >>> ((nI 1).toUInt32 &&& Int32.toUInt32 31)).toInt32) &&& (1431655765))).toUInt32 >>> ((nI 2).toUInt32 &&& Int32.toUInt32 31)).toInt32) &&& (858993459))).toUInt32 >>> ((nI 4).toUInt32 &&& Int32.toUInt32 31)).toInt32)) &&& (252645135)) + (((((((x - (((x.toUInt32 >>> ((nI 1).toUInt32 &&& Int32.toUInt32 31)).toInt32) &&& (1431655765))) &&& (858993459)) + ((((x - (((x.toUInt32 >>> ((nI 1).toUInt32 &&& Int32.toUInt32 31)).toInt32) &&& (1431655765))).toUInt32 >>> ((nI 2).toUInt32 &&& Int32.toUInt32 31)).toInt32) &&& (858993459))) + (((((x - (((x.toUInt32 >>> ((nI 1).toUInt32 &&& Int32.toUInt32 31)).toInt32) &&& (1431655765))) &&& (858993459)) + ((((x - (((x.toUInt32 >>> ((nI 1).toUInt32 &&& Int32.toUInt32 31)).toInt32) &&& (1431655765))).toUInt32 >>> ((nI 2).toUInt32 &&& Int32.toUInt32 31)).toInt32) &&& (858993459))).toUInt32 >>> ((nI 4).toUInt32 &&& Int32.toUInt32 31)).toInt32)) &&& (252645135)).toUInt32 >>> ((nI 8).toUInt32 &&& Int32.toUInt32 31)).toInt32))) dJ6_bitCount_0f7a4_39 (rfl) ?_
  refine x_istore_n ok (lv' := [(0, .int ((((((x - (((x.toUInt32 >>> ((nI 1).toUInt32 &&& Int32.toUInt32 31)).toInt32) &&& (1431655765))) &&& (858993459)) + ((((x - (((x.toUInt32 >>> ((nI 1).toUInt32 &&& Int32.toUInt32 31)).toInt32) &&& (1431655765))).toUInt32 >>> ((nI 2).toUInt32 &&& Int32.toUInt32 31)).toInt32) &&& (858993459))) + (((((x - (((x.toUInt32 >>> ((nI 1).toUInt32 &&& Int32.toUInt32 31)).toInt32) &&& (1431655765))) &&& (858993459)) + ((((x - (((x.toUInt32 >>> ((nI 1).toUInt32 &&& Int32.toUInt32 31)).toInt32) &&& (1431655765))).toUInt32 >>> ((nI 2).toUInt32 &&& Int32.toUInt32 31)).toInt32) &&& (858993459))).toUInt32 >>> ((nI 4).toUInt32 &&& Int32.toUInt32 31)).toInt32)) &&& (252645135)) + (((((((x - (((x.toUInt32 >>> ((nI 1).toUInt32 &&& Int32.toUInt32 31)).toInt32) &&& (1431655765))) &&& (858993459)) + ((((x - (((x.toUInt32 >>> ((nI 1).toUInt32 &&& Int32.toUInt32 31)).toInt32) &&& (1431655765))).toUInt32 >>> ((nI 2).toUInt32 &&& Int32.toUInt32 31)).toInt32) &&& (858993459))) + (((((x - (((x.toUInt32 >>> ((nI 1).toUInt32 &&& Int32.toUInt32 31)).toInt32) &&& (1431655765))) &&& (858993459)) + ((((x - (((x.toUInt32 >>> ((nI 1).toUInt32 &&& Int32.toUInt32 31)).toInt32) &&& (1431655765))).toUInt32 >>> ((nI 2).toUInt32 &&& Int32.toUInt32 31)).toInt32) &&& (858993459))).toUInt32 >>> ((nI 4).toUInt32 &&& Int32.toUInt32 31)).toInt32)) &&& (252645135)).toUInt32 >>> ((nI 8).toUInt32 &&& Int32.toUInt32 31)).toInt32)))]) dJ6_bitCount_0f7a4_40 rfl (by decide) rfl ?_
  refine x_iload_n ok 0 dJ6_bitCount_0f7a4_41 rfl rfl ?_
  refine x_iload_n ok 0 dJ6_bitCount_0f7a4_42 rfl rfl ?_
  refine x_bipush ok (nI 16) dJ6_bitCount_0f7a4_43 (by decide) ?_
  refine x_iushr ok (((((((((x - (((x.toUInt32 >>> ((nI 1).toUInt32 &&& Int32.toUInt32 31)).toInt32) &&& (1431655765))) &&& (858993459)) + ((((x - (((x.toUInt32 >>> ((nI 1).toUInt32 &&& Int32.toUInt32 31)).toInt32) &&& (1431655765))).toUInt32 >>> ((nI 2).toUInt32 &&& Int32.toUInt32 31)).toInt32) &&& (858993459))) + (((((x - (((x.toUInt32 >>> ((nI 1).toUInt32 &&& Int32.toUInt32 31)).toInt32) &&& (1431655765))) &&& (858993459)) + ((((x - (((x.toUInt32 >>> ((nI 1).toUInt32 &&& Int32.toUInt32 31)).toInt32) &&& (1431655765))).toUInt32 >>> ((nI 2).toUInt32 &&& Int32.toUInt32 31)).toInt32) &&& (858993459))).toUInt32 >>> ((nI 4).toUInt32 &&& Int32.toUInt32 31)).toInt32)) &&& (252645135)) + (((((((x - (((x.toUInt32 >>> ((nI 1).toUInt32 &&& Int32.toUInt32 31)).toInt32) &&& (1431655765))) &&& (858993459)) + ((((x - (((x.toUInt32 >>> ((nI 1).toUInt32 &&& Int32.toUInt32 31)).toInt32) &&& (1431655765))).toUInt32 >>> ((nI 2).toUInt32 &&& Int32.toUInt32 31)).toInt32) &&& (858993459))) + (((((x - (((x.toUInt32 >>> ((nI 1).toUInt32 &&& Int32.toUInt32 31)).toInt32) &&& (1431655765))) &&& (858993459)) + ((((x - (((x.toUInt32 >>> ((nI 1).toUInt32 &&& Int32.toUInt32 31)).toInt32) &&& (1431655765))).toUInt32 >>> ((nI 2).toUInt32 &&& Int32.toUInt32 31)).toInt32) &&& (858993459))).toUInt32 >>> ((nI 4).toUInt32 &&& Int32.toUInt32 31)).toInt32)) &&& (252645135)).toUInt32 >>> ((nI 8).toUInt32 &&& Int32.toUInt32 31)).toInt32)).toUInt32 >>> ((nI 16).toUInt32 &&& Int32.toUInt32 31)).toInt32)) dJ6_bitCount_0f7a4_45 (rfl) ?_
  refine x_iadd ok ((((((((x - (((x.toUInt32 >>> ((nI 1).toUInt32 &&& Int32.toUInt32 31)).toInt32) &&& (1431655765))) &&& (858993459)) + ((((x - (((x.toUInt32 >>> ((nI 1).toUInt32 &&& Int32.toUInt32 31)).toInt32) &&& (1431655765))).toUInt32 >>> ((nI 2).toUInt32 &&& Int32.toUInt32 31)).toInt32) &&& (858993459))) + (((((x - (((x.toUInt32 >>> ((nI 1).toUInt32 &&& Int32.toUInt32 31)).toInt32) &&& (1431655765))) &&& (858993459)) + ((((x - (((x.toUInt32 >>> ((nI 1).toUInt32 &&& Int32.toUInt32 31)).toInt32) &&& (1431655765))).toUInt32 >>> ((nI 2).toUInt32 &&& Int32.toUInt32 31)).toInt32) &&& (858993459))).toUInt32 >>> ((nI 4).toUInt32 &&& Int32.toUInt32 31)).toInt32)) &&& (252645135)) + (((((((x - (((x.toUInt32 >>> ((nI 1).toUInt32 &&& Int32.toUInt32 31)).toInt32) &&& (1431655765))) &&& (858993459)) + ((((x - (((x.toUInt32 >>> ((nI 1).toUInt32 &&& Int32.toUInt32 31)).toInt32) &&& (1431655765))).toUInt32 >>> ((nI 2).toUInt32 &&& Int32.toUInt32 31)).toInt32) &&& (858993459))) + (((((x - (((x.toUInt32 >>> ((nI 1).toUInt32 &&& Int32.toUInt32 31)).toInt32) &&& (1431655765))) &&& (858993459)) + ((((x - (((x.toUInt32 >>> ((nI 1).toUInt32 &&& Int32.toUInt32 31)).toInt32) &&& (1431655765))).toUInt32 >>> ((nI 2).toUInt32 &&& Int32.toUInt32 31)).toInt32) &&& (858993459))).toUInt32 >>> ((nI 4).toUInt32 &&& Int32.toUInt32 31)).toInt32)) &&& (252645135)).toUInt32 >>> ((nI 8).toUInt32 &&& Int32.toUInt32 31)).toInt32)) + ((((((((x - (((x.toUInt32 >>> ((nI 1).toUInt32 &&& Int32.toUInt32 31)).toInt32) &&& (1431655765))) &&& (858993459)) + ((((x - (((x.toUInt32 >>> ((nI 1).toUInt32 &&& Int32.toUInt32 31)).toInt32) &&& (1431655765))).toUInt32 >>> ((nI 2).toUInt32 &&& Int32.toUInt32 31)).toInt32) &&& (858993459))) + (((((x - (((x.toUInt32 >>> ((nI 1).toUInt32 &&& Int32.toUInt32 31)).toInt32) &&& (1431655765))) &&& (858993459)) + ((((x - (((x.toUInt32 >>> ((nI 1).toUInt32 &&& Int32.toUInt32 31)).toInt32) &&& (1431655765))).toUInt32 >>> ((nI 2).toUInt32 &&& Int32.toUInt32 31)).toInt32) &&& (858993459))).toUInt32 >>> ((nI 4).toUInt32 &&& Int32.toUInt32 31)).toInt32)) &&& (252645135)) + (((((((x - (((x.toUInt32 >>> ((nI 1).toUInt32 &&& Int32.toUInt32 31)).toInt32) &&& (1431655765))) &&& (858993459)) + ((((x - (((x.toUInt32 >>> ((nI 1).toUInt32 &&& Int32.toUInt32 31)).toInt32) &&& (1431655765))).toUInt32 >>> ((nI 2).toUInt32 &&& Int32.toUInt32 31)).toInt32) &&& (858993459))) + (((((x - (((x.toUInt32 >>> ((nI 1).toUInt32 &&& Int32.toUInt32 31)).toInt32) &&& (1431655765))) &&& (858993459)) + ((((x - (((x.toUInt32 >>> ((nI 1).toUInt32 &&& Int32.toUInt32 31)).toInt32) &&& (1431655765))).toUInt32 >>> ((nI 2).toUInt32 &&& Int32.toUInt32 31)).toInt32) &&& (858993459))).toUInt32 >>> ((nI 4).toUInt32 &&& Int32.toUInt32 31)).toInt32)) &&& (252645135)).toUInt32 >>> ((nI 8).toUInt32 &&& Int32.toUInt32 31)).toInt32)).toUInt32 >>> ((nI 16).toUInt32 &&& Int32.toUInt32 31)).toInt32))) dJ6_bitCount_0f7a4_46 (rfl) ?_
  refine x_istore_n ok (lv' := [(0, .int (((((((x - (((x.toUInt32 >>> ((nI 1).toUInt32 &&& Int32.toUInt32 31)).toInt32) &&& (1431655765))) &&& (858993459)) + ((((x - (((x.toUInt32 >>> ((nI 1).toUInt32 &&& Int32.toUInt32 31)).toInt32) &&& (1431655765))).toUInt32 >>> ((nI 2).toUInt32 &&& Int32.toUInt32 31)).toInt32) &&& (858993459))) + (((((x - (((x.toUInt32 >>> ((nI 1).toUInt32 &&& Int32.toUInt32 31)).toInt32) &&& (1431655765))) &&& (858993459)) + ((((x - (((x.toUInt32 >>> ((nI 1).toUInt32 &&& Int32.toUInt32 31)).toInt32) &&& (1431655765))).toUInt32 >>> ((nI 2).toUInt32 &&& Int32.toUInt32 31)).toInt32) &&& (858993459))).toUInt32 >>> ((nI 4).toUInt32 &&& Int32.toUInt32 31)).toInt32)) &&& (252645135)) + (((((((x - (((x.toUInt32 >>> ((nI 1).toUInt32 &&& Int32.toUInt32 31)).toInt32) &&& (1431655765))) &&& (858993459)) + ((((x - (((x.toUInt32 >>> ((nI 1).toUInt32 &&& Int32.toUInt32 31)).toInt32) &&& (1431655765))).toUInt32 >>> ((nI 2).toUInt32 &&& Int32.toUInt32 31)).toInt32) &&& (858993459))) + (((((x - (((x.toUInt32 >>> ((nI 1).toUInt32 &&& Int32.toUInt32 31)).toInt32) &&& (1431655765))) &&& (858993459)) + ((((x - (((x.toUInt32 >>> ((nI 1).toUInt32 &&& Int32.toUInt32 31)).toInt32) &&& (1431655765))).toUInt32 >>> ((nI 2).toUInt32 &&& Int32.toUInt32 31)).toInt32) &&& (858993459))).toUInt32 >>> ((nI 4).toUInt32 &&& Int32.toUInt32 31)).toInt32)) &&& (252645135)).toUInt32 >>> ((nI 8).toUInt32 &&& Int32.toUInt32 31)).toInt32)) + ((((((((x - (((x.toUInt32 >>> ((nI 1).toUInt32 &&& Int32.toUInt32 31)).toInt32) &&& (1431655765))) &&& (858993459)) + ((((x - (((x.toUInt32 >>> ((nI 1).toUInt32 &&& Int32.toUInt32 31)).toInt32) &&& (1431655765))).toUInt32 >>> ((nI 2).toUInt32 &&& Int32.toUInt32 31)).toInt32) &&& (858993459))) + (((((x - (((x.toUInt32 >>> ((nI 1).toUInt32 &&& Int32.toUInt32 31)).toInt32) &&& (1431655765))) &&& (858993459)) + ((((x - (((x.toUInt32 >>> ((nI 1).toUInt32 &&& Int32.toUInt32 31)).toInt32) &&& (1431655765))).toUInt32 >>> ((nI 2).toUInt32 &&& Int32.toUInt32 31)).toInt32) &&& (858993459))).toUInt32 >>> ((nI 4).toUInt32 &&& Int32.toUInt32 31)).toInt32)) &&& (252645135)) + (((((((x - (((x.toUInt32 >>> ((nI 1).toUInt32 &&& Int32.toUInt32 31)).toInt32) &&& (1431655765))) &&& (858993459)) + ((((x - (((x.toUInt32 >>> ((nI 1).toUInt32 &&& Int32.toUInt32 31)).toInt32) &&& (1431655765))).toUInt32 >>> ((nI 2).toUInt32 &&& Int32.toUInt32 31)).toInt32) &&& (858993459))) + (((((x - (((x.toUInt32 >>> ((nI 1).toUInt32 &&& Int32.toUInt32 31)).toInt32) &&& (1431655765))) &&& (858993459)) + ((((x - (((x.toUInt32 >>> ((nI 1).toUInt32 &&& Int32.toUInt32 31)).toInt32) &&& (1431655765))).toUInt32 >>> ((nI 2).toUInt32 &&& Int32.toUInt32 31)).toInt32) &&& (858993459))).toUInt32 >>> ((nI 4).toUInt32 &&& Int32.toUInt32 31)).toInt32)) &&& (252645135)).toUInt32 >>> ((nI 8).toUInt32 &&& Int32.toUInt32 31)).toInt32)).toUInt32 >>> ((nI 16).toUInt32 &&& Int32.toUInt32 31)).toInt32)))]) dJ6_bitCount_0f7a4_47 rfl (by decide) rfl ?_
  refine x_iload_n ok 0 dJ6_bitCount_0f7a4_48 rfl rfl ?_
  refine x_bipush ok (nI 63) dJ6_bitCount_0f7a4_49 (by decide) ?_
  refine x_iand ok (((((((((x - (((x.toUInt32 >>> ((nI 1).toUInt32 &&& Int32.toUInt32 31)).toInt32) &&& (1431655765))) &&& (858993459)) + ((((x - (((x.toUInt32 >>> ((nI 1).toUInt32 &&& Int32.toUInt32 31)).toInt32) &&& (1431655765))).toUInt32 >>> ((nI 2).toUInt32 &&& Int32.toUInt32 31)).toInt32) &&& (858993459))) + (((((x - (((x.toUInt32 >>> ((nI 1).toUInt32 &&& Int32.toUInt32 31)).toInt32) &&& (1431655765))) &&& (858993459)) + ((((x - (((x.toUInt32 >>> ((nI 1).toUInt32 &&& Int32.toUInt32 31)).toInt32) &&& (1431655765))).toUInt32 >>> ((nI 2).toUInt32 &&& Int32.toUInt32 31)).toInt32) &&& (858993459))).toUInt32 >>> ((nI 4).toUInt32 &&& Int32.toUInt32 31)).toInt32)) &&& (252645135)) + (((((((x - (((x.toUInt32 >>> ((nI 1).toUInt32 &&& Int32.toUInt32 31)).toInt32) &&& (1431655765))) &&& (858993459)) + ((((x - (((x.toUInt32 >>> ((nI 1).toUInt32 &&& Int32.toUInt32 31)).toInt32) &&& (1431655765))).toUInt32 >>> ((nI 2).toUInt32 &&& Int32.toUInt32 31)).toInt32) &&& (858993459))) + (((((x - (((x.toUInt32 >>> ((nI 1).toUInt32 &&& Int32.toUInt32 31)).toInt32) &&& (1431655765))) &&& (858993459)) + ((((x - (((x.toUInt32 >>> ((nI 1).toUInt32 &&& Int32.toUInt32 31)).toInt32) &&& (1431655765))).toUInt32 >>> ((nI 2).toUInt32 &&& Int32.toUInt32 31)).toInt32) &&& (858993459))).toUInt32 >>> ((nI 4).toUInt32 &&& Int32.toUInt32 31)).toInt32)) &&& (252645135)).toUInt32 >>> ((nI 8).toUInt32 &&& Int32.toUInt32 31)).toInt32)) + ((((((((x - (((x.toUInt32 >>> ((nI 1).toUInt32 &&& Int32.toUInt32 31)).toInt32) &&& (1431655765))) &&& (858993459)) + ((((x - (((x.toUInt32 >>> ((nI 1).toUInt32 &&& Int32.toUInt32 31)).toInt32) &&& (1431655765))).toUInt32 >>> ((nI 2).toUInt32 &&& Int32.toUInt32 31)).toInt32) &&& (858993459))) + (((((x - (((x.toUInt32 >>> ((nI 1).toUInt32 &&& Int32.toUInt32 31)).toInt32) &&& (1431655765))) &&& (858993459)) + ((((x - (((x.toUInt32 >>> ((nI 1).toUInt32 &&& Int32.toUInt32 31)).toInt32) &&& (1431655765))).toUInt32 >>> ((nI 2).toUInt32 &&& Int32.toUInt32 31)).toInt32) &&& (858993459))).toUInt32 >>> ((nI 4).toUInt32 &&& Int32.toUInt32 31)).toInt32)) &&& (252645135)) + (((((((x - (((x.toUInt32 >>> ((nI 1).toUInt32 &&& Int32.toUInt32 31)).toInt32) &&& (1431655765))) &&& (858993459)) + ((((x - (((x.toUInt32 >>> ((nI 1).toUInt32 &&& Int32.toUInt32 31)).toInt32) &&& (1431655765))).toUInt32 >>> ((nI 2).toUInt32 &&& Int32.toUInt32 31)).toInt32) &&& (858993459))) + (((((x - (((x.toUInt32 >>> ((nI 1).toUInt32 &&& Int32.toUInt32 31)).toInt32) &&& (1431655765))) &&& (858993459)) + ((((x - (((x.toUInt32 >>> ((nI 1).toUInt32 &&& Int32.toUInt32 31)).toInt32) &&& (1431655765))).toUInt32 >>> ((nI 2).toUInt32 &&& Int32.toUInt32 31)).toInt32) &&& (858993459))).toUInt32 >>> ((nI 4).toUInt32 &&& Int32.toUInt32 31)).toInt32)) &&& (252645135)).toUInt32 >>> ((nI 8).toUInt32 &&& Int32.toUInt32 31)).toInt32)).toUInt32 >>> ((nI 16).toUInt32 &&& Int32.toUInt32 31)).toInt32)) &&& (nI 63))) dJ6_bitCount_0f7a4_51 (rfl) ?_
  exact ret () _ _ _ (((((((((x - (((x.toUInt32 >>> ((nI 1).toUInt32 &&& Int32.toUInt32 31)).toInt32) &&& (1431655765))) &&& (858993459)) + ((((x - (((x.toUInt32 >>> ((nI 1).toUInt32 &&& Int32.toUInt32 31)).toInt32) &&& (1431655765))).toUInt32 >>> ((nI 2).toUInt32 &&& Int32.toUInt32 31)).toInt32) &&& (858993459))) + (((((x - (((x.toUInt32 >>> ((nI 1).toUInt32 &&& Int32.toUInt32 31)).toInt32) &&& (1431655765))) &&& (858993459)) + ((((x - (((x.toUInt32 >>> ((nI 1).toUInt32 &&& Int32.toUInt32 31)).toInt32) &&& (1431655765))).toUInt32 >>> ((nI 2).toUInt32 &&& Int32.toUInt32 31)).toInt32) &&& (858993459))).toUInt32 >>> ((nI 4).toUInt32 &&& Int32.toUInt32 31)).toInt32)) &&& (252645135)) + (((((((x - (((x.toUInt32 >>> ((nI 1).toUInt32 &&& Int32.toUInt32 31)).toInt32) &&& (1431655765))) &&& (858993459)) + ((((x - (((x.toUInt32 >>> ((nI 1).toUInt32 &&& Int32.toUInt32 31)).toInt32) &&& (1431655765))).toUInt32 >>> ((nI 2).toUInt32 &&& Int32.toUInt32 31)).toInt32) &&& (858993459))) + (((((x - (((x.toUInt32 >>> ((nI 1).toUInt32 &&& Int32.toUInt32 31)).toInt32) &&& (1431655765))) &&& (858993459)) + ((((x - (((x.toUInt32 >>> ((nI 1).toUInt32 &&& Int32.toUInt32 31)).toInt32) &&& (1431655765))).toUInt32 >>> ((nI 2).toUInt32 &&& Int32.toUInt32 31)).toInt32) &&& (858993459))).toUInt32 >>> ((nI 4).toUInt32 &&& Int32.toUInt32 31)).toInt32)) &&& (252645135)).toUInt32 >>> ((nI 8).toUInt32 &&& Int32.toUInt32 31)).toInt32)) + ((((((((x - (((x.toUInt32 >>> ((nI 1).toUInt32 &&& Int32.toUInt32 31)).toInt32) &&& (1431655765))) &&& (858993459)) + ((((x - (((x.toUInt32 >>> ((nI 1).toUInt32 &&& Int32.toUInt32 31)).toInt32) &&& (1431655765))).toUInt32 >>> ((nI 2).toUInt32 &&& Int32.toUInt32 31)).toInt32) &&& (858993459))) + (((((x - (((x.toUInt32 >>> ((nI 1).toUInt32 &&& Int32.toUInt32 31)).toInt32) &&& (1431655765))) &&& (858993459)) + ((((x - (((x.toUInt32 >>> ((nI 1).toUInt32 &&& Int32.toUInt32 31)).toInt32) &&& (1431655765))).toUInt32 >>> ((nI 2).toUInt32 &&& Int32.toUInt32 31)).toInt32) &&& (858993459))).toUInt32 >>> ((nI 4).toUInt32 &&& Int32.toUInt32 31)).toInt32)) &&& (252645135)) + (((((((x - (((x.toUInt32 >>> ((nI 1).toUInt32 &&& Int32.toUInt32 31)).toInt32) &&& (1431655765))) &&& (858993459)) + ((((x - (((x.toUInt32 >>> ((nI 1).toUInt32 &&& Int32.toUInt32 31)).toInt32) &&& (1431655765))).toUInt32 >>> ((nI 2).toUInt32 &&& Int32.toUInt32 31)).toInt32) &&& (858993459))) + (((((x - (((x.toUInt32 >>> ((nI 1).toUInt32 &&& Int32.toUInt32 31)).toInt32) &&& (1431655765))) &&& (858993459)) + ((((x - (((x.toUInt32 >>> ((nI 1).toUInt32 &&& Int32.toUInt32 31)).toInt32) &&& (1431655765))).toUInt32 >>> ((nI 2).toUInt32 &&& Int32.toUInt32 31)).toInt32) &&& (858993459))).toUInt32 >>> ((nI 4).toUInt32 &&& Int32.toUInt32 31)).toInt32)) &&& (252645135)).toUInt32 >>> ((nI 8).toUInt32 &&& Int32.toUInt32 31)).toInt32)).toUInt32 >>> ((nI 16).toUInt32 &&& Int32.toUInt32 31)).toInt32)) &&& (nI 63))) dJ6_bitCount_0f7a4_52 (rfl) (rfl) (trivial)

set_option maxHeartbeats 4000000 in
set_option maxRecDepth 100000 in
theorem cJ_bitCountN (l : Launch) (D : va_G) (cI cZ cS : ClassId) (a : Nat) (ha : a < 64) : CO l D (TY cI cZ cS) yJ6_bitCount_0f7a4 cJ6_bitCount_0f7a4 1 (some .int) 0 0 0 0 [.int (nI a)] [] (σ := Unit) (fun u => some (.int (nI (popN a)))) (fun u => []) (fun u => True) := by
  have q := cJ_bitCount l D cI cZ cS (nI a)
  rw [bc_pop a ha] at q
  exact q

set_option maxHeartbeats 4000000 in
set_option maxRecDepth 100000 in
theorem c4_heardBy (l : Launch) (D : va_G) (cI cZ cS : ClassId) (x : Nat) (ax : Nat) (aw : Nat) (an : Nat) (aa : Nat) (a0 : Nat) (a1 : Nat) (sk : Nat) (ll : Nat) (ar : Nat) (aq : Nat) (al : Nat) (am : Nat) (sd : Int64) (wd : Nat) (wt : Nat) (W : Nat) (df : Nat → Int32) (tf : Nat → Int32) (dp : Nat → Nat) (st : Nat → Nat) (A : Nat) (nc : Nat) (L : List Sg) (li : Nat) (ye : Int32) (br : Int32) (f : Nat → Int32) (w : Nat) (x0 : Nat) (noon : Bool) (hf : hs f L) (hv : okL W A L) (hW : W ≤ 4) (hdp : ∀ w, w < W → df w = nI (dp w)) (hdp2 : ∀ w, w < W → 1 ≤ dp w ∧ dp w ≤ 9) (hl : li < 256) (hA : A < 1000000) (hw : w < W) (hx : x0 ≤ 9) : CO l D (TY cI cZ cS) yX4_heardBy cX4_heardBy 10 (some .int) 1 23 0 0 [.ref x, .int (nI w), .int (nI x0), .int (bz noon)] [(x, .inr (4, [.ref ax, .ref aw, .ref an, .ref aa, .ref a0, .ref a1, .int (nI sk), .int (nI ll), .long sd, .ref ar, .ref aq, .ref al, .ref am])), (aw, .inr (3, [.ref wd, .ref wt, .int (nI W)])), (wd, .inl (cI, 4, .inl df)), (an, .inr (1, [.ref nc, .int (nI L.length), .int (nI li), .int ye, .int br])), (nc, .inl (cI, 48, .inl f))] (σ := Unit) (fun u => some (.int (nI (heardN L li (dp w) noon w x0)))) (fun u => [(x, .inr (4, [.ref ax, .ref aw, .ref an, .ref aa, .ref a0, .ref a1, .int (nI sk), .int (nI ll), .long sd, .ref ar, .ref aq, .ref al, .ref am])), (aw, .inr (3, [.ref wd, .ref wt, .int (nI W)])), (wd, .inl (cI, 4, .inl df)), (an, .inr (1, [.ref nc, .int (nI L.length), .int (nI li), .int ye, .int br])), (nc, .inl (cI, 48, .inl f))]) (fun u => True) := by
  refine CO_mki (by decide +kernel) (Nat.le_of_ble_eq_true rfl) (fun K ok ret => ?_)
  show XX K [(x, .inr (4, [.ref ax, .ref aw, .ref an, .ref aa, .ref a0, .ref a1, .int (nI sk), .int (nI ll), .long sd, .ref ar, .ref aq, .ref al, .ref am])), (aw, .inr (3, [.ref wd, .ref wt, .int (nI W)])), (wd, .inl (cI, 4, .inl df)), (an, .inr (1, [.ref nc, .int (nI L.length), .int (nI li), .int ye, .int br])), (nc, .inl (cI, 48, .inl f))] [(0, .ref x), (1, .int (nI w)), (2, .int (nI x0)), (3, .int (bz noon))] 0 []
  have h8 := hv.1
  have hd9 := hdp2 w hw
  refine x_aload_n ok 0 dX4_heardBy_0 rfl rfl ?_
  refine gX4_26 ok dX4_heardBy_1 0 rfl rfl ?_
  refine x_iload_n ok 1 dX4_heardBy_4 rfl rfl ?_
  refine qX4_121 ok (As := [.int (nI w)]) (st := []) 3 rfl (c1_hasLid l D cI cZ cS an nc L.length li ye br w (by first | assumption | omega) (by first | assumption | omega)) rfl (Nat.le_of_ble_eq_true rfl) (Nat.le_of_ble_eq_true rfl) (Nat.le_of_ble_eq_true rfl) dX4_heardBy_5 [3] (by decide) rfl (ws' := fun u => [(x, .inr (4, [.ref ax, .ref aw, .ref an, .ref aa, .ref a0, .ref a1, .int (nI sk), .int (nI ll), .long sd, .ref ar, .ref aq, .ref al, .ref am])), (aw, .inr (3, [.ref wd, .ref wt, .int (nI W)])), (wd, .inl (cI, 4, .inl df)), (an, .inr (1, [.ref nc, .int (nI L.length), .int (nI li), .int ye, .int br])), (nc, .inl (cI, 48, .inl f))]) (st' := fun u => [.int (bz (li.testBit w))]) (fun _ => rfl) (fun _ => rfl) (fun _ => rfl) (fun _ _ => ?_)
  refine x_if_eqB ok 13 dX4_heardBy_8 (by decide) (fun c_8 => ?_) (fun c_8 => ?_)
  · skip
    refine x_aload_n ok 0 dX4_heardBy_13 rfl rfl ?_
    refine gX4_19 ok dX4_heardBy_14 0 rfl rfl ?_
    refine x_iload_n ok 1 dX4_heardBy_17 rfl rfl ?_
    refine qX4_115 ok (As := [.int (nI w)]) (st := []) 1 rfl (c3_depthOf l D cI cZ cS aw wd wt W df w (by first | assumption | omega)) rfl (Nat.le_of_ble_eq_true rfl) (Nat.le_of_ble_eq_true rfl) (Nat.le_of_ble_eq_true rfl) dX4_heardBy_18 [1, 2] (by decide) rfl (ws' := fun u => [(x, .inr (4, [.ref ax, .ref aw, .ref an, .ref aa, .ref a0, .ref a1, .int (nI sk), .int (nI ll), .long sd, .ref ar, .ref aq, .ref al, .ref am])), (aw, .inr (3, [.ref wd, .ref wt, .int (nI W)])), (wd, .inl (cI, 4, .inl df)), (an, .inr (1, [.ref nc, .int (nI L.length), .int (nI li), .int ye, .int br])), (nc, .inl (cI, 48, .inl f))]) (st' := fun u => [.int (df w)]) (fun _ => rfl) (fun _ => rfl) (fun _ => rfl) (fun _ _ => ?_)
    refine x_eq (st' := [.int (nI (dp w))]) rfl rfl (by rw [hdp w hw]) ?_
    refine x_istore ok (lv' := [(4, .int (nI (dp w))), (0, .ref x), (1, .int (nI w)), (2, .int (nI x0)), (3, .int (bz noon))]) dX4_heardBy_21 (by decide) rfl ?_
    refine x_iload_n ok 3 dX4_heardBy_23 rfl rfl ?_
    refine x_iload ok 0 dX4_heardBy_24 rfl ?_
    refine x_mmin ok LX4_160 H_minT N_Math H_minC (Nat.le_of_ble_eq_true rfl) (Nat.le_of_ble_eq_true rfl) dX4_heardBy_26 (nI (min x0 (dp w))) (min_n (by omega) (by omega)) ?_
    refine x_istore ok (lv' := [(5, .int (nI (min x0 (dp w)))), (4, .int (nI (dp w))), (0, .ref x), (1, .int (nI w)), (2, .int (nI x0)), (3, .int (bz noon))]) dX4_heardBy_29 (by decide) rfl ?_
    refine x_iconst ok (nI 0) dX4_heardBy_31 (by decide) ?_
    refine x_istore ok (lv' := [(6, .int (nI 0)), (5, .int (nI (min x0 (dp w)))), (4, .int (nI (dp w))), (0, .ref x), (1, .int (nI w)), (2, .int (nI x0)), (3, .int (bz noon))]) dX4_heardBy_32 (by decide) rfl ?_
    refine x_iconst ok (nI 0) dX4_heardBy_34 (by decide) ?_
    refine x_istore ok (lv' := [(7, .int (nI 0)), (6, .int (nI 0)), (5, .int (nI (min x0 (dp w)))), (4, .int (nI (dp w))), (0, .ref x), (1, .int (nI w)), (2, .int (nI x0)), (3, .int (bz noon))]) dX4_heardBy_35 (by decide) rfl ?_
    have L_37 : ∀ (n_37 : Nat) (i : Nat), L.length - i < n_37 → (i ≤ L.length) → XX K [(x, .inr (4, [.ref ax, .ref aw, .ref an, .ref aa, .ref a0, .ref a1, .int (nI sk), .int (nI ll), .long sd, .ref ar, .ref aq, .ref al, .ref am])), (aw, .inr (3, [.ref wd, .ref wt, .int (nI W)])), (wd, .inl (cI, 4, .inl df)), (an, .inr (1, [.ref nc, .int (nI L.length), .int (nI li), .int ye, .int br])), (nc, .inl (cI, 48, .inl f))] [(7, .int (nI i)), (6, .int (nI (orN (hear1 L (dp w) (min x0 (dp w)) noon w) i))), (5, .int (nI (min x0 (dp w)))), (4, .int (nI (dp w))), (0, .ref x), (1, .int (nI w)), (2, .int (nI x0)), (3, .int (bz noon))] 37 [] := by
      intro n_37
      induction n_37 with
      | zero => intro i hm; exact absurd hm (Nat.not_lt_zero _)
      | succ n_37 ih_37 =>
        intro i hm_37 hi
        refine x_iload ok 0 dX4_heardBy_37 rfl ?_
        refine x_aload_n ok 4 dX4_heardBy_39 rfl rfl ?_
        refine gX4_26 ok dX4_heardBy_40 0 rfl rfl ?_
        refine gX4_88 ok dX4_heardBy_43 3 rfl rfl ?_
        refine x_icmp_geN ok 146 dX4_heardBy_46 (by decide) (by omega) (by omega) (fun c_46 => ?_) (fun c_46 => ?_)
        · skip
          have e_i : L.length = i := by omega
          subst e_i
          refine x_iload ok 1 dX4_heardBy_146 rfl ?_
          exact ret () _ _ _ (nI (orN (hear1 L (dp w) (min x0 (dp w)) noon w) L.length)) dX4_heardBy_148 (rfl) (by rw [heardN, if_neg c_8]) (trivial)
        · skip
          obtain ⟨v0, v1, v2, v2b, v3, v4, v5⟩ := hv.2 i (by omega)
          have hnd : ndiff (min (sg L i 4) (dp w)) (min x0 (dp w)) < 1000000 := by rw [ndiff]; split <;> omega
          refine x_aload_n ok 4 dX4_heardBy_49 rfl rfl ?_
          refine gX4_26 ok dX4_heardBy_50 0 rfl rfl ?_
          refine x_iload ok 0 dX4_heardBy_53 rfl ?_
          refine x_iconst ok (nI 4) dX4_heardBy_55 (by decide) ?_
          refine qX4_132 ok (As := [.int (nI i), .int (nI 4)]) (st := []) 3 rfl (c1_getL l D cI cZ cS an nc L li ye br f i 4 (by first | assumption | omega) (by first | assumption | omega) (by first | assumption | omega) (by first | assumption | omega)) rfl (Nat.le_of_ble_eq_true rfl) (Nat.le_of_ble_eq_true rfl) (Nat.le_of_ble_eq_true rfl) dX4_heardBy_56 [3, 4] (by decide) rfl (ws' := fun u => [(x, .inr (4, [.ref ax, .ref aw, .ref an, .ref aa, .ref a0, .ref a1, .int (nI sk), .int (nI ll), .long sd, .ref ar, .ref aq, .ref al, .ref am])), (aw, .inr (3, [.ref wd, .ref wt, .int (nI W)])), (wd, .inl (cI, 4, .inl df)), (an, .inr (1, [.ref nc, .int (nI L.length), .int (nI li), .int ye, .int br])), (nc, .inl (cI, 48, .inl f))]) (st' := fun u => [.int (nI (sg L i 4))]) (fun _ => rfl) (fun _ => rfl) (fun _ => rfl) (fun _ _ => ?_)
          refine x_iload ok 3 dX4_heardBy_59 rfl ?_
          refine x_mmin ok LX4_160 H_minT N_Math H_minC (Nat.le_of_ble_eq_true rfl) (Nat.le_of_ble_eq_true rfl) dX4_heardBy_61 (nI (min (sg L i 4) (dp w))) (min_n (by omega) (by omega)) ?_
          refine x_iload ok 2 dX4_heardBy_64 rfl ?_
          refine x_isub ok (((nI (min (sg L i 4) (dp w))) - (nI (min x0 (dp w))))) dX4_heardBy_66 (rfl) ?_
          refine x_mabs ok LX4_165 H_absT N_Math H_absC (Nat.le_of_ble_eq_true rfl) (Nat.le_of_ble_eq_true rfl) dX4_heardBy_67 (nI (ndiff (min (sg L i 4) (dp w)) (min x0 (dp w)))) (abs_n (by omega) (by omega)) ?_
          refine x_istore ok (lv' := [(8, .int (nI (ndiff (min (sg L i 4) (dp w)) (min x0 (dp w))))), (7, .int (nI i)), (6, .int (nI (orN (hear1 L (dp w) (min x0 (dp w)) noon w) i))), (5, .int (nI (min x0 (dp w)))), (4, .int (nI (dp w))), (0, .ref x), (1, .int (nI w)), (2, .int (nI x0)), (3, .int (bz noon))]) dX4_heardBy_70 (by decide) rfl ?_
          refine x_iload_n ok 8 dX4_heardBy_72 rfl rfl ?_
          have J_95 : ∀ (b95_1 : Bool), b95_1 = (if noon = true then (if 2 ≤ (sg L i 3) then false else true) else true) → XX K [(x, .inr (4, [.ref ax, .ref aw, .ref an, .ref aa, .ref a0, .ref a1, .int (nI sk), .int (nI ll), .long sd, .ref ar, .ref aq, .ref al, .ref am])), (aw, .inr (3, [.ref wd, .ref wt, .int (nI W)])), (wd, .inl (cI, 4, .inl df)), (an, .inr (1, [.ref nc, .int (nI L.length), .int (nI li), .int ye, .int br])), (nc, .inl (cI, 48, .inl f))] [(8, .int (nI (ndiff (min (sg L i 4) (dp w)) (min x0 (dp w))))), (7, .int (nI i)), (6, .int (nI (orN (hear1 L (dp w) (min x0 (dp w)) noon w) i))), (5, .int (nI (min x0 (dp w)))), (4, .int (nI (dp w))), (0, .ref x), (1, .int (nI w)), (2, .int (nI x0)), (3, .int (bz noon))] 95 [.int (bz b95_1)] := by
            intro b95_1 e_b95_1
            refine x_istore ok (lv' := [(9, .int (bz b95_1)), (8, .int (nI (ndiff (min (sg L i 4) (dp w)) (min x0 (dp w))))), (7, .int (nI i)), (6, .int (nI (orN (hear1 L (dp w) (min x0 (dp w)) noon w) i))), (5, .int (nI (min x0 (dp w)))), (4, .int (nI (dp w))), (0, .ref x), (1, .int (nI w)), (2, .int (nI x0)), (3, .int (bz noon))]) dX4_heardBy_95 (by decide) rfl ?_
            refine x_aload_n ok 6 dX4_heardBy_97 rfl rfl ?_
            refine gX4_26 ok dX4_heardBy_98 0 rfl rfl ?_
            refine x_iload ok 2 dX4_heardBy_101 rfl ?_
            refine x_iconst ok (nI 1) dX4_heardBy_103 (by decide) ?_
            refine qX4_132 ok (As := [.int (nI i), .int (nI 1)]) (st := []) 3 rfl (c1_getL l D cI cZ cS an nc L li ye br f i 1 (by first | assumption | omega) (by first | assumption | omega) (by first | assumption | omega) (by first | assumption | omega)) rfl (Nat.le_of_ble_eq_true rfl) (Nat.le_of_ble_eq_true rfl) (Nat.le_of_ble_eq_true rfl) dX4_heardBy_104 [3, 4] (by decide) rfl (ws' := fun u => [(x, .inr (4, [.ref ax, .ref aw, .ref an, .ref aa, .ref a0, .ref a1, .int (nI sk), .int (nI ll), .long sd, .ref ar, .ref aq, .ref al, .ref am])), (aw, .inr (3, [.ref wd, .ref wt, .int (nI W)])), (wd, .inl (cI, 4, .inl df)), (an, .inr (1, [.ref nc, .int (nI L.length), .int (nI li), .int ye, .int br])), (nc, .inl (cI, 48, .inl f))]) (st' := fun u => [.int (nI (sg L i 1))]) (fun _ => rfl) (fun _ => rfl) (fun _ => rfl) (fun _ _ => ?_)
            refine x_iload_n ok 7 dX4_heardBy_107 rfl rfl ?_
            refine x_icmp_neN ok 140 dX4_heardBy_108 (by decide) (by omega) (by omega) (fun c_108 => ?_) (fun c_108 => ?_)
            · skip
              have hno : sg L i 1 = w → (noon = true → sg L i 3 < 2) → ¬ ndiff (min (sg L i 4) (dp w)) (min x0 (dp w)) < sg L i 2 := fun q _ _ => c_108 q
              refine x_iinc ok (v := nI (i + 1)) (lv' := [(7, .int (nI (i + 1))), (9, .int (bz b95_1)), (8, .int (nI (ndiff (min (sg L i 4) (dp w)) (min x0 (dp w))))), (6, .int (nI (orN (hear1 L (dp w) (min x0 (dp w)) noon w) i))), (5, .int (nI (min x0 (dp w)))), (4, .int (nI (dp w))), (0, .ref x), (1, .int (nI w)), (2, .int (nI x0)), (3, .int (bz noon))]) dX4_heardBy_140 2 rfl (nN (nI_inc _ 1) (by omega)) (by decide) rfl ?_
              refine x_goto ok 37 dX4_heardBy_143 (by decide) ?_
              refine x_loc ok [0, 3, 4, 5, 6, 7, 8, 9] (lv' := [(7, .int (nI (i + 1))), (6, .int (nI (orN (hear1 L (dp w) (min x0 (dp w)) noon w) i))), (5, .int (nI (min x0 (dp w)))), (4, .int (nI (dp w))), (0, .ref x), (1, .int (nI w)), (2, .int (nI x0)), (3, .int (bz noon))]) rfl ?_
              rw [show orN (hear1 L (dp w) (min x0 (dp w)) noon w) i = orN (hear1 L (dp w) (min x0 (dp w)) noon w) (i + 1) from by rw [orN, hear1, if_neg (fun q => hno q.1 q.2.1 q.2.2), Nat.or_zero]]
              exact ih_37 (i + 1) (by omega) (by first | assumption | omega)
            · skip
              refine x_iload ok 0 dX4_heardBy_111 rfl ?_
              refine x_if_eqB ok 140 dX4_heardBy_113 (by decide) (fun c_113 => ?_) (fun c_113 => ?_)
              · skip
                have hno : sg L i 1 = w → (noon = true → sg L i 3 < 2) → ¬ ndiff (min (sg L i 4) (dp w)) (min x0 (dp w)) < sg L i 2 := fun _ q _ => by rw [e_b95_1] at c_113; by_cases n : noon = true <;> simp_all <;> omega
                refine x_iinc ok (v := nI (i + 1)) (lv' := [(7, .int (nI (i + 1))), (9, .int (bz b95_1)), (8, .int (nI (ndiff (min (sg L i 4) (dp w)) (min x0 (dp w))))), (6, .int (nI (orN (hear1 L (dp w) (min x0 (dp w)) noon w) i))), (5, .int (nI (min x0 (dp w)))), (4, .int (nI (dp w))), (0, .ref x), (1, .int (nI w)), (2, .int (nI x0)), (3, .int (bz noon))]) dX4_heardBy_140 2 rfl (nN (nI_inc _ 1) (by omega)) (by decide) rfl ?_
                refine x_goto ok 37 dX4_heardBy_143 (by decide) ?_
                refine x_loc ok [0, 3, 4, 5, 6, 7, 8, 9] (lv' := [(7, .int (nI (i + 1))), (6, .int (nI (orN (hear1 L (dp w) (min x0 (dp w)) noon w) i))), (5, .int (nI (min x0 (dp w)))), (4, .int (nI (dp w))), (0, .ref x), (1, .int (nI w)), (2, .int (nI x0)), (3, .int (bz noon))]) rfl ?_
                rw [show orN (hear1 L (dp w) (min x0 (dp w)) noon w) i = orN (hear1 L (dp w) (min x0 (dp w)) noon w) (i + 1) from by rw [orN, hear1, if_neg (fun q => hno q.1 q.2.1 q.2.2), Nat.or_zero]]
                exact ih_37 (i + 1) (by omega) (by first | assumption | omega)
              · skip
                have hso : noon = true → sg L i 3 < 2 := fun n => by rw [e_b95_1] at c_113; simp_all
                refine x_aload_n ok 6 dX4_heardBy_116 rfl rfl ?_
                refine gX4_26 ok dX4_heardBy_117 0 rfl rfl ?_
                refine x_iload ok 2 dX4_heardBy_120 rfl ?_
                refine x_iconst ok (nI 2) dX4_heardBy_122 (by decide) ?_
                refine qX4_132 ok (As := [.int (nI i), .int (nI 2)]) (st := []) 3 rfl (c1_getL l D cI cZ cS an nc L li ye br f i 2 (by first | assumption | omega) (by first | assumption | omega) (by first | assumption | omega) (by first | assumption | omega)) rfl (Nat.le_of_ble_eq_true rfl) (Nat.le_of_ble_eq_true rfl) (Nat.le_of_ble_eq_true rfl) dX4_heardBy_123 [3, 4] (by decide) rfl (ws' := fun u => [(x, .inr (4, [.ref ax, .ref aw, .ref an, .ref aa, .ref a0, .ref a1, .int (nI sk), .int (nI ll), .long sd, .ref ar, .ref aq, .ref al, .ref am])), (aw, .inr (3, [.ref wd, .ref wt, .int (nI W)])), (wd, .inl (cI, 4, .inl df)), (an, .inr (1, [.ref nc, .int (nI L.length), .int (nI li), .int ye, .int br])), (nc, .inl (cI, 48, .inl f))]) (st' := fun u => [.int (nI (sg L i 2))]) (fun _ => rfl) (fun _ => rfl) (fun _ => rfl) (fun _ _ => ?_)
                refine x_iload ok 1 dX4_heardBy_126 rfl ?_
                refine x_icmp_leN ok 140 dX4_heardBy_128 (by decide) (by omega) (by omega) (fun c_128 => ?_) (fun c_128 => ?_)
                · skip
                  have hno : sg L i 1 = w → (noon = true → sg L i 3 < 2) → ¬ ndiff (min (sg L i 4) (dp w)) (min x0 (dp w)) < sg L i 2 := fun _ _ => by omega
                  refine x_iinc ok (v := nI (i + 1)) (lv' := [(7, .int (nI (i + 1))), (9, .int (bz b95_1)), (8, .int (nI (ndiff (min (sg L i 4) (dp w)) (min x0 (dp w))))), (6, .int (nI (orN (hear1 L (dp w) (min x0 (dp w)) noon w) i))), (5, .int (nI (min x0 (dp w)))), (4, .int (nI (dp w))), (0, .ref x), (1, .int (nI w)), (2, .int (nI x0)), (3, .int (bz noon))]) dX4_heardBy_140 2 rfl (nN (nI_inc _ 1) (by omega)) (by decide) rfl ?_
                  refine x_goto ok 37 dX4_heardBy_143 (by decide) ?_
                  refine x_loc ok [0, 3, 4, 5, 6, 7, 8, 9] (lv' := [(7, .int (nI (i + 1))), (6, .int (nI (orN (hear1 L (dp w) (min x0 (dp w)) noon w) i))), (5, .int (nI (min x0 (dp w)))), (4, .int (nI (dp w))), (0, .ref x), (1, .int (nI w)), (2, .int (nI x0)), (3, .int (bz noon))]) rfl ?_
                  rw [show orN (hear1 L (dp w) (min x0 (dp w)) noon w) i = orN (hear1 L (dp w) (min x0 (dp w)) noon w) (i + 1) from by rw [orN, hear1, if_neg (fun q => hno q.1 q.2.1 q.2.2), Nat.or_zero]]
                  exact ih_37 (i + 1) (by omega) (by first | assumption | omega)
                · skip
                  refine x_iload ok 3 dX4_heardBy_131 rfl ?_
                  refine x_iconst ok (nI 1) dX4_heardBy_133 (by decide) ?_
                  refine x_iload ok 2 dX4_heardBy_134 rfl ?_
                  refine x_ishl ok (nI (2 ^ i)) dX4_heardBy_136 (shl1 i (by omega)) ?_
                  refine x_ior ok (nI (orN (hear1 L (dp w) (min x0 (dp w)) noon w) (i + 1))) dX4_heardBy_137 ((fa_or _ _).trans (by rw [orN, hear1, if_pos ⟨c_108, hso, by omega⟩])) ?_
                  refine x_istore ok (lv' := [(6, .int (nI (orN (hear1 L (dp w) (min x0 (dp w)) noon w) (i + 1)))), (9, .int (bz b95_1)), (8, .int (nI (ndiff (min (sg L i 4) (dp w)) (min x0 (dp w))))), (7, .int (nI i)), (5, .int (nI (min x0 (dp w)))), (4, .int (nI (dp w))), (0, .ref x), (1, .int (nI w)), (2, .int (nI x0)), (3, .int (bz noon))]) dX4_heardBy_138 (by decide) rfl ?_
                  refine x_iinc ok (v := nI (i + 1)) (lv' := [(7, .int (nI (i + 1))), (6, .int (nI (orN (hear1 L (dp w) (min x0 (dp w)) noon w) (i + 1)))), (9, .int (bz b95_1)), (8, .int (nI (ndiff (min (sg L i 4) (dp w)) (min x0 (dp w))))), (5, .int (nI (min x0 (dp w)))), (4, .int (nI (dp w))), (0, .ref x), (1, .int (nI w)), (2, .int (nI x0)), (3, .int (bz noon))]) dX4_heardBy_140 3 rfl (nN (nI_inc _ 1) (by omega)) (by decide) rfl ?_
                  refine x_goto ok 37 dX4_heardBy_143 (by decide) ?_
                  refine x_loc ok [0, 1, 4, 5, 6, 7, 8, 9] (lv' := [(7, .int (nI (i + 1))), (6, .int (nI (orN (hear1 L (dp w) (min x0 (dp w)) noon w) (i + 1)))), (5, .int (nI (min x0 (dp w)))), (4, .int (nI (dp w))), (0, .ref x), (1, .int (nI w)), (2, .int (nI x0)), (3, .int (bz noon))]) rfl ?_
                  exact ih_37 (i + 1) (by omega) (by first | assumption | omega)
          refine x_if_eqB ok 90 dX4_heardBy_73 (by decide) (fun c_73 => ?_) (fun c_73 => ?_)
          · skip
            refine x_iconst ok (nI 1) dX4_heardBy_90 (by decide) ?_
            refine x_goto ok 95 dX4_heardBy_91 (by decide) ?_
            exact J_95 true (by first | rfl | (simp only [if_neg c_73]; done) | (simp [c_73]; done))
          · skip
            refine x_aload_n ok 5 dX4_heardBy_76 rfl rfl ?_
            refine gX4_26 ok dX4_heardBy_77 0 rfl rfl ?_
            refine x_iload ok 1 dX4_heardBy_80 rfl ?_
            refine x_iconst ok (nI 3) dX4_heardBy_82 (by decide) ?_
            refine qX4_132 ok (As := [.int (nI i), .int (nI 3)]) (st := []) 3 rfl (c1_getL l D cI cZ cS an nc L li ye br f i 3 (by first | assumption | omega) (by first | assumption | omega) (by first | assumption | omega) (by first | assumption | omega)) rfl (Nat.le_of_ble_eq_true rfl) (Nat.le_of_ble_eq_true rfl) (Nat.le_of_ble_eq_true rfl) dX4_heardBy_83 [3, 4] (by decide) rfl (ws' := fun u => [(x, .inr (4, [.ref ax, .ref aw, .ref an, .ref aa, .ref a0, .ref a1, .int (nI sk), .int (nI ll), .long sd, .ref ar, .ref aq, .ref al, .ref am])), (aw, .inr (3, [.ref wd, .ref wt, .int (nI W)])), (wd, .inl (cI, 4, .inl df)), (an, .inr (1, [.ref nc, .int (nI L.length), .int (nI li), .int ye, .int br])), (nc, .inl (cI, 48, .inl f))]) (st' := fun u => [.int (nI (sg L i 3))]) (fun _ => rfl) (fun _ => rfl) (fun _ => rfl) (fun _ _ => ?_)
            refine x_iconst ok (nI 2) dX4_heardBy_86 (by decide) ?_
            refine x_icmp_geN ok 94 dX4_heardBy_87 (by decide) (by omega) (by omega) (fun c_87 => ?_) (fun c_87 => ?_)
            · skip
              refine x_iconst ok (nI 0) dX4_heardBy_94 (by decide) ?_
              exact J_95 false (by first | rfl | (simp only [if_pos c_73, if_pos c_87]; done) | (simp [c_73, c_87]; done))
            · skip
              refine x_iconst ok (nI 1) dX4_heardBy_90 (by decide) ?_
              refine x_goto ok 95 dX4_heardBy_91 (by decide) ?_
              exact J_95 true (by first | rfl | (simp only [if_pos c_73, if_neg c_87]; done) | (simp [c_73, c_87]; done))
    exact L_37 _ 0 (Nat.lt_succ_self _) (by first | assumption | omega)
  · skip
    refine x_iconst ok (nI 0) dX4_heardBy_11 (by decide) ?_
    exact ret () _ _ _ (nI 0) dX4_heardBy_12 (rfl) (by rw [heardN, if_pos c_8]) (trivial)

set_option maxHeartbeats 4000000 in
set_option maxRecDepth 100000 in
theorem c4_deedsOf (l : Launch) (D : va_G) (cI cZ cS : ClassId) (h : Nat) (c : Nat) (n : Nat) (li : Nat) (ye : Int32) (br : Int32) (hn : n < 1000) : CO l D (TY cI cZ cS) yX4_deedsOf cX4_deedsOf 1 (some .int) 0 0 0 0 [.ref h] [(h, .inr (1, [.ref c, .int (nI n), .int (nI li), .int ye, .int br]))] (σ := Unit) (fun u => some (.int (nI (n * 2 + 1)))) (fun u => [(h, .inr (1, [.ref c, .int (nI n), .int (nI li), .int ye, .int br]))]) (fun u => True) := by
  refine CO_mki (by decide +kernel) (Nat.le_of_ble_eq_true rfl) (fun K ok ret => ?_)
  show XX K [(h, .inr (1, [.ref c, .int (nI n), .int (nI li), .int ye, .int br]))] [(0, .ref h)] 0 []
  refine x_iconst ok (nI 1) dX4_deedsOf_0 (by decide) ?_
  refine x_iconst ok (nI 2) dX4_deedsOf_1 (by decide) ?_
  refine x_aload_n ok 0 dX4_deedsOf_2 rfl rfl ?_
  refine gX4_88 ok dX4_deedsOf_3 0 rfl rfl ?_
  refine x_imul ok (nI (n * 2)) dX4_deedsOf_6 (nN (pk_mul _ _) (by omega)) ?_
  refine x_iadd ok (nI (n * 2 + 1)) dX4_deedsOf_7 (nN (nI_add _ _) (by omega)) ?_
  exact ret () _ _ _ (nI (n * 2 + 1)) dX4_deedsOf_8 (rfl) (rfl) (trivial)

set_option maxHeartbeats 4000000 in
set_option maxRecDepth 100000 in
theorem c4_worthOfDeed (l : Launch) (D : va_G) (cI cZ cS : ClassId) (a : Nat) (ha : a < 1000) : CO l D (TY cI cZ cS) yX4_worthOfDeed cX4_worthOfDeed 1 (some .int) 0 0 0 0 [.int (nI a)] [] (σ := Unit) (fun u => some (.int (zI (sgn1 a)))) (fun u => []) (fun u => True) := by
  refine CO_mki (by decide +kernel) (Nat.le_of_ble_eq_true rfl) (fun K ok ret => ?_)
  show XX K [] [(0, .int (nI a))] 0 []
  refine x_iload_n ok 0 dX4_worthOfDeed_0 rfl rfl ?_
  refine x_if_neN ok 8 dX4_worthOfDeed_1 (by decide) (by omega) (fun c_1 => ?_) (fun c_1 => ?_)
  · skip
    refine x_iconst ok ((-1)) dX4_worthOfDeed_8 (by decide) ?_
    exact ret () _ _ _ ((-1)) dX4_worthOfDeed_9 (rfl) (by rw [sgn1, if_neg c_1]; rfl) (trivial)
  · skip
    refine x_iconst ok (nI 0) dX4_worthOfDeed_4 (by decide) ?_
    refine x_goto ok 9 dX4_worthOfDeed_5 (by decide) ?_
    exact ret () _ _ _ (nI 0) dX4_worthOfDeed_9 (rfl) (by rw [sgn1, if_pos c_1]; rfl) (trivial)

set_option maxHeartbeats 4000000 in
set_option maxRecDepth 100000 in
theorem c4_isDone (l : Launch) (D : va_G) (cI cZ cS : ClassId) (x : Nat) (ax : Nat) (aw : Nat) (an : Nat) (aa : Nat) (a0 : Nat) (a1 : Nat) (sk : Nat) (ll : Nat) (ar : Nat) (aq : Nat) (al : Nat) (am : Nat) (sd : Int64) (wd : Nat) (wt : Nat) (W : Nat) (df : Nat → Int32) (tf : Nat → Int32) (dp : Nat → Nat) (st : Nat → Nat) (A : Nat) (h : Nat) (c : Nat) (L : List Sg) (li : Nat) (ye : Int32) (br : Int32) (f : Nat → Int32) (a : Nat) (hf : hs f L) (hv : okL W A L) (hW : W ≤ 4) (hst : ∀ w, w < W → tf w = nI (st w)) (hst2 : ∀ w, w < W → st w ≤ 2) (hl : li < 256) (ha : a < 100) : CO l D (TY cI cZ cS) yX4_isDone cX4_isDone 5 (some .boolean) 3 78 0 0 [.ref x, .ref h, .int (nI a)] [(x, .inr (4, [.ref ax, .ref aw, .ref an, .ref aa, .ref a0, .ref a1, .int (nI sk), .int (nI ll), .long sd, .ref ar, .ref aq, .ref al, .ref am])), (aw, .inr (3, [.ref wd, .ref wt, .int (nI W)])), (wt, .inl (cI, 4, .inl tf)), (h, .inr (1, [.ref c, .int (nI L.length), .int (nI li), .int ye, .int br])), (c, .inl (cI, 48, .inl f))] (σ := (Nat → Int32) × (Int32)) (fun u => some (.int (bz (canB W li L a)))) (fun u => [(x, .inr (4, [.ref ax, .ref aw, .ref an, .ref aa, .ref a0, .ref a1, .int (nI sk), .int (nI ll), .long sd, .ref ar, .ref aq, .ref al, .ref am])), (aw, .inr (3, [.ref wd, .ref wt, .int (nI W)])), (wt, .inl (cI, 4, .inl tf)), (h, .inr (1, [.ref c, .int (nI ((afterL st W li L a).length)), .int (nI li), .int ye, .int u.2])), (c, .inl (cI, 48, .inl u.1))]) (fun u => (hs u.1 (afterL st W li L a))) := by
  refine CO_mkz (by decide +kernel) (Nat.le_of_ble_eq_true rfl) (fun K ok ret => ?_)
  show XX K [(x, .inr (4, [.ref ax, .ref aw, .ref an, .ref aa, .ref a0, .ref a1, .int (nI sk), .int (nI ll), .long sd, .ref ar, .ref aq, .ref al, .ref am])), (aw, .inr (3, [.ref wd, .ref wt, .int (nI W)])), (wt, .inl (cI, 4, .inl tf)), (h, .inr (1, [.ref c, .int (nI L.length), .int (nI li), .int ye, .int br])), (c, .inl (cI, 48, .inl f))] [(0, .ref x), (1, .ref h), (2, .int (nI a))] 0 []
  have h8 := hv.1
  refine x_iload_n ok 2 dX4_isDone_0 rfl rfl ?_
  refine x_if_neN ok 6 dX4_isDone_1 (by decide) (by omega) (fun c_1 => ?_) (fun c_1 => ?_)
  · skip
    refine x_iload_n ok 2 dX4_isDone_6 rfl rfl ?_
    refine x_iconst ok (nI 1) dX4_isDone_7 (by decide) ?_
    refine x_isub ok (nI (a - 1)) dX4_isDone_8 (pk_sub (by omega)) ?_
    refine x_iconst ok (nI 2) dX4_isDone_9 (by decide) ?_
    refine x_idiv ok (nI ((a - 1) / 2)) dX4_isDone_10 (by decide) (pk_div (by omega) (by omega) (by omega)) ?_
    refine x_istore_n ok (lv' := [(3, .int (nI ((a - 1) / 2))), (0, .ref x), (1, .ref h), (2, .int (nI a))]) dX4_isDone_11 rfl (by decide) rfl ?_
    refine x_iload_n ok 3 dX4_isDone_12 rfl rfl ?_
    refine x_iconst ok (nI 1) dX4_isDone_13 (by decide) ?_
    refine x_isub ok (nI (a - 1)) dX4_isDone_14 (pk_sub (by omega)) ?_
    refine x_iconst ok (nI 2) dX4_isDone_15 (by decide) ?_
    refine x_irem ok (nI ((a - 1) % 2)) dX4_isDone_16 (by decide) (pk_rem (by omega) (by omega) (by omega)) ?_
    refine x_istore ok (lv' := [(4, .int (nI ((a - 1) % 2))), (3, .int (nI ((a - 1) / 2))), (0, .ref x), (1, .ref h), (2, .int (nI a))]) dX4_isDone_17 (by decide) rfl ?_
    refine x_aload_n ok 3 dX4_isDone_19 rfl rfl ?_
    refine x_iload_n ok 1 dX4_isDone_20 rfl rfl ?_
    refine qX4_127 ok (As := [.int (nI ((a - 1) / 2))]) (st := []) 3 rfl (c1_has l D cI cZ cS h c L.length li ye br (nI ((a - 1) / 2)) ) rfl (Nat.le_of_ble_eq_true rfl) (Nat.le_of_ble_eq_true rfl) (Nat.le_of_ble_eq_true rfl) dX4_isDone_21 [3] (by decide) rfl (ws' := fun u => [(x, .inr (4, [.ref ax, .ref aw, .ref an, .ref aa, .ref a0, .ref a1, .int (nI sk), .int (nI ll), .long sd, .ref ar, .ref aq, .ref al, .ref am])), (aw, .inr (3, [.ref wd, .ref wt, .int (nI W)])), (wt, .inl (cI, 4, .inl tf)), (h, .inr (1, [.ref c, .int (nI L.length), .int (nI li), .int ye, .int br])), (c, .inl (cI, 48, .inl f))]) (st' := fun u => [.int (bz (hasB (nI ((a - 1) / 2)) L.length))]) (fun _ => rfl) (fun _ => rfl) (fun _ => rfl) (fun _ _ => ?_)
    refine x_if_eqB ok 50 dX4_isDone_24 (by decide) (fun c_24 => ?_) (fun c_24 => ?_)
    · skip
      have ec : canB W li L a = false := by rw [canB, if_neg c_1]; cases q : decide ((a - 1) / 2 < L.length) with | false => rfl | true => rw [decide_eq_true_eq] at q; exact absurd (hasB_n q (by omega)) c_24
      have ea : afterL st W li L a = L := by rw [afterL, ec]; rfl
      rw [show L.length = (afterL st W li L a).length from by rw [ea]]
      refine x_iconst ok (nI 0) dX4_isDone_50 (by decide) ?_
      exact ret (f, br) _ _ _ (false) dX4_isDone_51 (rfl) (ec) (by rw [ea]; exact hf)
    · skip
      obtain ⟨k0, hk0, ek0⟩ := hasB_t (by omega) c_24
      have hs0 : (a - 1) / 2 < L.length := by have := (nI_eq (by omega) (by omega)).mp ek0; omega
      obtain ⟨u0, u1, u2, u2b, u3, u4, u5⟩ := hv.2 _ hs0
      refine x_aload_n ok 3 dX4_isDone_27 rfl rfl ?_
      refine x_iload_n ok 1 dX4_isDone_28 rfl rfl ?_
      refine x_iload ok 0 dX4_isDone_29 rfl ?_
      refine x_aload_n ok 2 dX4_isDone_31 rfl rfl ?_
      refine gX4_19 ok dX4_isDone_32 0 rfl rfl ?_
      refine qX4_144 ok (As := [.int (nI ((a - 1) / 2)), .int (nI ((a - 1) % 2)), .ref aw]) (st := []) 3 rfl (c1_isWayOpen l D cI cZ cS h c L li ye br f aw wd wt W A ((a - 1) / 2) ((a - 1) % 2) (by first | assumption | omega) (by first | assumption | omega) (by first | assumption | omega) (by first | assumption | omega) (by first | assumption | omega) (by first | assumption | omega)) rfl (Nat.le_of_ble_eq_true rfl) (Nat.le_of_ble_eq_true rfl) (Nat.le_of_ble_eq_true rfl) dX4_isDone_35 [3, 4, 1] (by decide) rfl (ws' := fun u => [(x, .inr (4, [.ref ax, .ref aw, .ref an, .ref aa, .ref a0, .ref a1, .int (nI sk), .int (nI ll), .long sd, .ref ar, .ref aq, .ref al, .ref am])), (aw, .inr (3, [.ref wd, .ref wt, .int (nI W)])), (wt, .inl (cI, 4, .inl tf)), (h, .inr (1, [.ref c, .int (nI L.length), .int (nI li), .int ye, .int br])), (c, .inl (cI, 48, .inl f))]) (st' := fun u => [.int (bz (way W li (sg L ((a - 1) / 2) 1) ((a - 1) % 2)))]) (fun _ => rfl) (fun _ => rfl) (fun _ => rfl) (fun _ _ => ?_)
      refine x_if_eqB ok 50 dX4_isDone_38 (by decide) (fun c_38 => ?_) (fun c_38 => ?_)
      · skip
        have ec : canB W li L a = false := by rw [canB, if_neg c_1, Bool.eq_false_iff]; intro q; rw [Bool.and_eq_true, Bool.and_eq_true] at q; exact c_38 q.2.1
        have ea : afterL st W li L a = L := by rw [afterL, ec]; rfl
        rw [show L.length = (afterL st W li L a).length from by rw [ea]]
        refine x_iconst ok (nI 0) dX4_isDone_50 (by decide) ?_
        exact ret (f, br) _ _ _ (false) dX4_isDone_51 (rfl) (ec) (by rw [ea]; exact hf)
      · skip
        refine x_aload_n ok 3 dX4_isDone_41 rfl rfl ?_
        refine gX4_88 ok dX4_isDone_42 3 rfl rfl ?_
        refine x_bipush ok (nI 8) dX4_isDone_45 (by decide) ?_
        refine x_icmp_ltN ok 52 dX4_isDone_47 (by decide) (by omega) (by omega) (fun c_47 => ?_) (fun c_47 => ?_)
        · skip
          have ec : canB W li L a = true := by rw [canB, if_neg c_1, Bool.and_eq_true, Bool.and_eq_true, decide_eq_true_eq, decide_eq_true_eq]; exact ⟨hs0, c_38, by omega⟩
          have ea : sungL st L ((a - 1) / 2) (jN L ((a - 1) / 2) ((a - 1) % 2)) 6 (sg L ((a - 1) / 2) 3) = afterL st W li L a := by rw [afterL, if_pos ec, doL, if_neg c_1]
          have hwj := way_j hW c_38
          refine x_aload_n ok 3 dX4_isDone_52 rfl rfl ?_
          refine x_iload_n ok 1 dX4_isDone_53 rfl rfl ?_
          refine x_iload ok 0 dX4_isDone_54 rfl ?_
          refine x_bipush ok (nI 6) dX4_isDone_56 (by decide) ?_
          refine x_aload_n ok 3 dX4_isDone_58 rfl rfl ?_
          refine x_iload_n ok 1 dX4_isDone_59 rfl rfl ?_
          refine x_iconst ok (nI 3) dX4_isDone_60 (by decide) ?_
          refine qX4_132 ok (As := [.int (nI ((a - 1) / 2)), .int (nI 3)]) (st := [.int (nI 6), .int (nI ((a - 1) % 2)), .int (nI ((a - 1) / 2)), .ref h]) 3 rfl (c1_getL l D cI cZ cS h c L li ye br f ((a - 1) / 2) 3 (by first | assumption | omega) (by first | assumption | omega) (by first | assumption | omega) (by first | assumption | omega)) rfl (Nat.le_of_ble_eq_true rfl) (Nat.le_of_ble_eq_true rfl) (Nat.le_of_ble_eq_true rfl) dX4_isDone_61 [3, 4] (by decide) rfl (ws' := fun u => [(x, .inr (4, [.ref ax, .ref aw, .ref an, .ref aa, .ref a0, .ref a1, .int (nI sk), .int (nI ll), .long sd, .ref ar, .ref aq, .ref al, .ref am])), (aw, .inr (3, [.ref wd, .ref wt, .int (nI W)])), (wt, .inl (cI, 4, .inl tf)), (h, .inr (1, [.ref c, .int (nI L.length), .int (nI li), .int ye, .int br])), (c, .inl (cI, 48, .inl f))]) (st' := fun u => [.int (nI (sg L ((a - 1) / 2) 3)), .int (nI 6), .int (nI ((a - 1) % 2)), .int (nI ((a - 1) / 2)), .ref h]) (fun _ => rfl) (fun _ => rfl) (fun _ => rfl) (fun _ _ => ?_)
          refine x_aload_n ok 2 dX4_isDone_64 rfl rfl ?_
          refine gX4_19 ok dX4_isDone_65 0 rfl rfl ?_
          refine qX4_148 ok (As := [.int (nI ((a - 1) / 2)), .int (nI ((a - 1) % 2)), .int (nI 6), .int (nI (sg L ((a - 1) / 2) 3)), .ref aw]) (st := []) 3 rfl (c1_singOn l D cI cZ cS h c L li ye br f aw wd wt W tf st A ((a - 1) / 2) ((a - 1) % 2) 6 (sg L ((a - 1) / 2) 3) (jN L ((a - 1) / 2) ((a - 1) % 2)) (by first | assumption | omega) (by first | assumption | omega) (by first | assumption | omega) (by first | assumption | omega) (by first | assumption | omega) (by first | assumption | omega) (by first | assumption | omega) (by first | assumption | omega) (hwj.2)) rfl (Nat.le_of_ble_eq_true rfl) (Nat.le_of_ble_eq_true rfl) (Nat.le_of_ble_eq_true rfl) dX4_isDone_68 [3, 4, 1, 2] (by decide) rfl (ws' := fun u => [(x, .inr (4, [.ref ax, .ref aw, .ref an, .ref aa, .ref a0, .ref a1, .int (nI sk), .int (nI ll), .long sd, .ref ar, .ref aq, .ref al, .ref am])), (aw, .inr (3, [.ref wd, .ref wt, .int (nI W)])), (wt, .inl (cI, 4, .inl tf)), (h, .inr (1, [.ref c, .int (nI ((sungL st L ((a - 1) / 2) (jN L ((a - 1) / 2) ((a - 1) % 2)) 6 (sg L ((a - 1) / 2) 3)).length)), .int (nI li), .int ye, .int (br + nI 6)])), (c, .inl (cI, 48, .inl u))]) (st' := fun u => [.int (nI L.length)]) (fun _ => rfl) (fun _ => rfl) (fun _ => rfl) (fun u68 hu68 => ?_)
          obtain ⟨g68, rfl⟩ : ∃ z, z = u68 := ⟨_, rfl⟩
          have hg68 := hu68
          have hg68 : hs g68 (sungL st L ((a - 1) / 2) (jN L ((a - 1) / 2) ((a - 1) % 2)) 6 (sg L ((a - 1) / 2) 3)) := hg68
          show XX K [(x, .inr (4, [.ref ax, .ref aw, .ref an, .ref aa, .ref a0, .ref a1, .int (nI sk), .int (nI ll), .long sd, .ref ar, .ref aq, .ref al, .ref am])), (aw, .inr (3, [.ref wd, .ref wt, .int (nI W)])), (wt, .inl (cI, 4, .inl tf)), (h, .inr (1, [.ref c, .int (nI ((sungL st L ((a - 1) / 2) (jN L ((a - 1) / 2) ((a - 1) % 2)) 6 (sg L ((a - 1) / 2) 3)).length)), .int (nI li), .int ye, .int (br + nI 6)])), (c, .inl (cI, 48, .inl g68))] [(4, .int (nI ((a - 1) % 2))), (3, .int (nI ((a - 1) / 2))), (0, .ref x), (1, .ref h), (2, .int (nI a))] 71 [.int (nI L.length)]
          refine x_pop ok dX4_isDone_71 rfl ?_
          rw [show (sungL st L ((a - 1) / 2) (jN L ((a - 1) / 2) ((a - 1) % 2)) 6 (sg L ((a - 1) / 2) 3)).length = (afterL st W li L a).length from by rw [ea]]
          refine x_iconst ok (nI 1) dX4_isDone_72 (by decide) ?_
          exact ret (g68, (br + nI 6)) _ _ _ (true) dX4_isDone_73 (rfl) (ec) (by rw [← ea]; exact hg68)
        · skip
          have ec : canB W li L a = false := by rw [canB, if_neg c_1, Bool.eq_false_iff]; intro q; rw [Bool.and_eq_true, Bool.and_eq_true] at q; exact absurd (of_decide_eq_true q.2.2) (by omega)
          have ea : afterL st W li L a = L := by rw [afterL, ec]; rfl
          rw [show L.length = (afterL st W li L a).length from by rw [ea]]
          refine x_iconst ok (nI 0) dX4_isDone_50 (by decide) ?_
          exact ret (f, br) _ _ _ (false) dX4_isDone_51 (rfl) (ec) (by rw [ea]; exact hf)
  · skip
    have ea : afterL st W li L a = L := by rw [afterL, doL, if_pos c_1]; split <;> rfl
    rw [show L.length = (afterL st W li L a).length from by rw [ea]]
    refine x_iconst ok (nI 1) dX4_isDone_4 (by decide) ?_
    exact ret (f, br) _ _ _ (true) dX4_isDone_5 (rfl) (by rw [canB, if_pos c_1]) (by rw [ea]; exact hf)

set_option maxHeartbeats 4000000 in
set_option maxRecDepth 100000 in
theorem c4_landLawsIn (l : Launch) (D : va_G) (cI cZ cS : ClassId) (x : Nat) (ax : Nat) (aw : Nat) (an : Nat) (aa : Nat) (a0 : Nat) (a1 : Nat) (sk : Nat) (ll : Nat) (ar : Nat) (aq : Nat) (al : Nat) (am : Nat) (sd : Int64) (W : Nat) (A : Nat) (h : Nat) (c : Nat) (L : List Sg) (li : Nat) (ye : Int32) (br : Int32) (f : Nat → Int32) (hf : hs f L) (hv : okL W A L) : CO l D (TY cI cZ cS) yX4_landLawsIn cX4_landLawsIn 2 (some .int) 3 66 0 0 [.ref x, .ref h] [(x, .inr (4, [.ref ax, .ref aw, .ref an, .ref aa, .ref a0, .ref a1, .int (nI sk), .int (nI ll), .long sd, .ref ar, .ref aq, .ref al, .ref am])), (h, .inr (1, [.ref c, .int (nI L.length), .int (nI li), .int ye, .int br])), (c, .inl (cI, 48, .inl f))] (σ := Unit) (fun u => some (.int (nI (llN ll L)))) (fun u => [(x, .inr (4, [.ref ax, .ref aw, .ref an, .ref aa, .ref a0, .ref a1, .int (nI sk), .int (nI ll), .long sd, .ref ar, .ref aq, .ref al, .ref am])), (h, .inr (1, [.ref c, .int (nI L.length), .int (nI li), .int ye, .int br])), (c, .inl (cI, 48, .inl f))]) (fun u => True) := by
  refine CO_mki (by decide +kernel) (Nat.le_of_ble_eq_true rfl) (fun K ok ret => ?_)
  show XX K [(x, .inr (4, [.ref ax, .ref aw, .ref an, .ref aa, .ref a0, .ref a1, .int (nI sk), .int (nI ll), .long sd, .ref ar, .ref aq, .ref al, .ref am])), (h, .inr (1, [.ref c, .int (nI L.length), .int (nI li), .int ye, .int br])), (c, .inl (cI, 48, .inl f))] [(0, .ref x), (1, .ref h)] 0 []
  have hl6 := lawsN_lt hv
  refine x_aload_n ok 0 dX4_landLawsIn_0 rfl rfl ?_
  refine gX4_85 ok dX4_landLawsIn_1 0 rfl rfl ?_
  refine x_aload_n ok 1 dX4_landLawsIn_4 rfl rfl ?_
  refine qX4_82 ok (As := []) (st := [.int (nI ll)]) 1 rfl (c1_lawsHad l D cI cZ cS h c L li ye br f W A (by first | assumption | omega) (by first | assumption | omega)) rfl (Nat.le_of_ble_eq_true rfl) (Nat.le_of_ble_eq_true rfl) (Nat.le_of_ble_eq_true rfl) dX4_landLawsIn_5 [1, 2] (by decide) rfl (ws' := fun u => [(x, .inr (4, [.ref ax, .ref aw, .ref an, .ref aa, .ref a0, .ref a1, .int (nI sk), .int (nI ll), .long sd, .ref ar, .ref aq, .ref al, .ref am])), (h, .inr (1, [.ref c, .int (nI L.length), .int (nI li), .int ye, .int br])), (c, .inl (cI, 48, .inl f))]) (st' := fun u => [.int (nI (lawsN L)), .int (nI ll)]) (fun _ => rfl) (fun _ => rfl) (fun _ => rfl) (fun _ _ => ?_)
  refine x_iand ok (nI (ll &&& lawsN L)) dX4_landLawsIn_8 (fa_and _ _) ?_
  refine qX4_211 ok (As := [.int (nI (ll &&& lawsN L))]) (st := []) (cJ_bitCountN l D cI cZ cS (ll &&& lawsN L) (and_lt64 hl6)) rfl (Nat.le_of_ble_eq_true rfl) (Nat.le_of_ble_eq_true rfl) (Nat.le_of_ble_eq_true rfl) dX4_landLawsIn_9 [] (by decide) rfl (ws' := fun u => [(x, .inr (4, [.ref ax, .ref aw, .ref an, .ref aa, .ref a0, .ref a1, .int (nI sk), .int (nI ll), .long sd, .ref ar, .ref aq, .ref al, .ref am])), (h, .inr (1, [.ref c, .int (nI L.length), .int (nI li), .int ye, .int br])), (c, .inl (cI, 48, .inl f))]) (st' := fun u => [.int (nI (popN (ll &&& lawsN L)))]) (fun _ => rfl) (fun _ => rfl) (fun _ => rfl) (fun _ _ => ?_)
  exact ret () _ _ _ (nI (popN (ll &&& lawsN L))) dX4_landLawsIn_12 (rfl) (rfl) (trivial)

set_option maxHeartbeats 4000000 in
set_option maxRecDepth 100000 in
theorem c4_landLawsBehind (l : Launch) (D : va_G) (cI cZ cS : ClassId) (x : Nat) (ax : Nat) (aw : Nat) (an : Nat) (aa : Nat) (a0 : Nat) (a1 : Nat) (sk : Nat) (ll : Nat) (ar : Nat) (aq : Nat) (al : Nat) (am : Nat) (sd : Int64) (wd : Nat) (wt : Nat) (W : Nat) (df : Nat → Int32) (tf : Nat → Int32) (dp : Nat → Nat) (st : Nat → Nat) (A : Nat) (nc : Nat) (L : List Sg) (li : Nat) (ye : Int32) (br : Int32) (f : Nat → Int32) (rc : Nat) (rn : Nat) (rl : Nat) (ry : Int32) (rb : Int32) (rf : Nat → Int32) (n : Nat) (q : Nat) (hf : hs f L) (hv : okL W A L) (hW : W ≤ 4) (hst : ∀ w, w < W → tf w = nI (st w)) (hst2 : ∀ w, w < W → st w ≤ 2) (hq : q < 256) (hn : n < 1000) : CO l D (TY cI cZ cS) yX4_landLawsBehind cX4_landLawsBehind 3 (some .int) 5 116 0 0 [.ref x, .int (nI n), .int (nI q)] [(x, .inr (4, [.ref ax, .ref aw, .ref an, .ref aa, .ref a0, .ref a1, .int (nI sk), .int (nI ll), .long sd, .ref ar, .ref aq, .ref al, .ref am])), (aw, .inr (3, [.ref wd, .ref wt, .int (nI W)])), (wt, .inl (cI, 4, .inl tf)), (an, .inr (1, [.ref nc, .int (nI L.length), .int (nI li), .int ye, .int br])), (nc, .inl (cI, 48, .inl f)), (ar, .inr (1, [.ref rc, .int (nI rn), .int (nI rl), .int ry, .int rb])), (rc, .inl (cI, 48, .inl rf))] (σ := (Nat → Int32) × (Int32)) (fun u => some (.int (nI (llN ll (yearsL st q n L))))) (fun u => [(x, .inr (4, [.ref ax, .ref aw, .ref an, .ref aa, .ref a0, .ref a1, .int (nI sk), .int (nI ll), .long sd, .ref ar, .ref aq, .ref al, .ref am])), (aw, .inr (3, [.ref wd, .ref wt, .int (nI W)])), (wt, .inl (cI, 4, .inl tf)), (an, .inr (1, [.ref nc, .int (nI L.length), .int (nI li), .int ye, .int br])), (nc, .inl (cI, 48, .inl f)), (ar, .inr (1, [.ref rc, .int (nI ((yearsL st q n L).length)), .int (nI q), .int u.2, .int br])), (rc, .inl (cI, 48, .inl u.1))]) (fun u => True) := by
  refine CO_mki (by decide +kernel) (Nat.le_of_ble_eq_true rfl) (fun K ok ret => ?_)
  show XX K [(x, .inr (4, [.ref ax, .ref aw, .ref an, .ref aa, .ref a0, .ref a1, .int (nI sk), .int (nI ll), .long sd, .ref ar, .ref aq, .ref al, .ref am])), (aw, .inr (3, [.ref wd, .ref wt, .int (nI W)])), (wt, .inl (cI, 4, .inl tf)), (an, .inr (1, [.ref nc, .int (nI L.length), .int (nI li), .int ye, .int br])), (nc, .inl (cI, 48, .inl f)), (ar, .inr (1, [.ref rc, .int (nI rn), .int (nI rl), .int ry, .int rb])), (rc, .inl (cI, 48, .inl rf))] [(0, .ref x), (1, .int (nI n)), (2, .int (nI q))] 0 []
  have h8 := hv.1
  refine x_aload_n ok 0 dX4_landLawsBehind_0 rfl rfl ?_
  refine gX4_43 ok dX4_landLawsBehind_1 0 rfl rfl ?_
  refine x_aload_n ok 0 dX4_landLawsBehind_4 rfl rfl ?_
  refine gX4_26 ok dX4_landLawsBehind_5 0 rfl rfl ?_
  refine qX4_168 ok (As := [.ref an]) (st := []) 5 rfl (c1_take l D cI cZ cS ar rc rn rl ry rb rf an nc L li ye br f (by first | assumption | omega) (by first | assumption | omega)) rfl (Nat.le_of_ble_eq_true rfl) (Nat.le_of_ble_eq_true rfl) (Nat.le_of_ble_eq_true rfl) dX4_landLawsBehind_8 [5, 6, 3, 4] (by decide) rfl (ws' := fun u => [(x, .inr (4, [.ref ax, .ref aw, .ref an, .ref aa, .ref a0, .ref a1, .int (nI sk), .int (nI ll), .long sd, .ref ar, .ref aq, .ref al, .ref am])), (aw, .inr (3, [.ref wd, .ref wt, .int (nI W)])), (wt, .inl (cI, 4, .inl tf)), (an, .inr (1, [.ref nc, .int (nI L.length), .int (nI li), .int ye, .int br])), (nc, .inl (cI, 48, .inl f)), (ar, .inr (1, [.ref rc, .int (nI L.length), .int (nI li), .int ye, .int br])), (rc, .inl (cI, 48, .inl u))]) (st' := fun u => []) (fun _ => rfl) (fun _ => rfl) (fun _ => rfl) (fun u8 hu8 => ?_)
  obtain ⟨g8, rfl⟩ : ∃ z, z = u8 := ⟨_, rfl⟩
  have hg8 := hu8
  have hg8 : hs g8 L := hg8
  show XX K [(x, .inr (4, [.ref ax, .ref aw, .ref an, .ref aa, .ref a0, .ref a1, .int (nI sk), .int (nI ll), .long sd, .ref ar, .ref aq, .ref al, .ref am])), (aw, .inr (3, [.ref wd, .ref wt, .int (nI W)])), (wt, .inl (cI, 4, .inl tf)), (an, .inr (1, [.ref nc, .int (nI L.length), .int (nI li), .int ye, .int br])), (nc, .inl (cI, 48, .inl f)), (ar, .inr (1, [.ref rc, .int (nI L.length), .int (nI li), .int ye, .int br])), (rc, .inl (cI, 48, .inl g8))] [(0, .ref x), (1, .int (nI n)), (2, .int (nI q))] 11 []
  refine x_aload_n ok 0 dX4_landLawsBehind_11 rfl rfl ?_
  refine gX4_43 ok dX4_landLawsBehind_12 0 rfl rfl ?_
  refine x_iload_n ok 2 dX4_landLawsBehind_15 rfl rfl ?_
  refine pX4_109 ok dX4_landLawsBehind_16 5 rfl rfl rfl (Nat.le_of_ble_eq_true rfl) (ws' := [(x, .inr (4, [.ref ax, .ref aw, .ref an, .ref aa, .ref a0, .ref a1, .int (nI sk), .int (nI ll), .long sd, .ref ar, .ref aq, .ref al, .ref am])), (aw, .inr (3, [.ref wd, .ref wt, .int (nI W)])), (wt, .inl (cI, 4, .inl tf)), (an, .inr (1, [.ref nc, .int (nI L.length), .int (nI li), .int ye, .int br])), (nc, .inl (cI, 48, .inl f)), (ar, .inr (1, [.ref rc, .int (nI L.length), .int (nI q), .int ye, .int br])), (rc, .inl (cI, 48, .inl g8))]) rfl ?_
  refine x_aload_n ok 0 dX4_landLawsBehind_19 rfl rfl ?_
  refine gX4_43 ok dX4_landLawsBehind_20 0 rfl rfl ?_
  refine x_iload_n ok 1 dX4_landLawsBehind_23 rfl rfl ?_
  refine x_aload_n ok 0 dX4_landLawsBehind_24 rfl rfl ?_
  refine gX4_19 ok dX4_landLawsBehind_25 0 rfl rfl ?_
  refine qX4_181 ok (As := [.int (nI n), .ref aw]) (st := []) 5 rfl (c1_goYears l D cI cZ cS ar rc L q ye br g8 aw wd wt W tf st A n (hg8) (by first | assumption | omega) (by first | assumption | omega) (by first | assumption | omega) (by first | assumption | omega) (by first | assumption | omega) (by first | assumption | omega)) rfl (Nat.le_of_ble_eq_true rfl) (Nat.le_of_ble_eq_true rfl) (Nat.le_of_ble_eq_true rfl) dX4_landLawsBehind_28 [5, 6, 1, 2] (by decide) rfl (ws' := fun u => [(x, .inr (4, [.ref ax, .ref aw, .ref an, .ref aa, .ref a0, .ref a1, .int (nI sk), .int (nI ll), .long sd, .ref ar, .ref aq, .ref al, .ref am])), (aw, .inr (3, [.ref wd, .ref wt, .int (nI W)])), (wt, .inl (cI, 4, .inl tf)), (an, .inr (1, [.ref nc, .int (nI L.length), .int (nI li), .int ye, .int br])), (nc, .inl (cI, 48, .inl f)), (ar, .inr (1, [.ref rc, .int (nI ((yearsL st q n L).length)), .int (nI q), .int u.2, .int br])), (rc, .inl (cI, 48, .inl u.1))]) (st' := fun u => []) (fun _ => rfl) (fun _ => rfl) (fun _ => rfl) (fun u28 hu28 => ?_)
  obtain ⟨g28, y28⟩ := u28
  have hg28 := hu28
  have hg28 : hs g28 (yearsL st q n L) := hg28
  show XX K [(x, .inr (4, [.ref ax, .ref aw, .ref an, .ref aa, .ref a0, .ref a1, .int (nI sk), .int (nI ll), .long sd, .ref ar, .ref aq, .ref al, .ref am])), (aw, .inr (3, [.ref wd, .ref wt, .int (nI W)])), (wt, .inl (cI, 4, .inl tf)), (an, .inr (1, [.ref nc, .int (nI L.length), .int (nI li), .int ye, .int br])), (nc, .inl (cI, 48, .inl f)), (ar, .inr (1, [.ref rc, .int (nI ((yearsL st q n L).length)), .int (nI q), .int y28, .int br])), (rc, .inl (cI, 48, .inl g28))] [(0, .ref x), (1, .int (nI n)), (2, .int (nI q))] 31 []
  refine x_aload_n ok 0 dX4_landLawsBehind_31 rfl rfl ?_
  refine x_aload_n ok 0 dX4_landLawsBehind_32 rfl rfl ?_
  refine gX4_43 ok dX4_landLawsBehind_33 0 rfl rfl ?_
  refine qX4_208 ok (As := [.ref ar]) (st := []) 0 rfl (c4_landLawsIn l D cI cZ cS x ax aw an aa a0 a1 sk ll ar aq al am sd W (A + n) ar rc (yearsL st q n L) q y28 br g28 (hg28) (years_ok hv n)) rfl (Nat.le_of_ble_eq_true rfl) (Nat.le_of_ble_eq_true rfl) (Nat.le_of_ble_eq_true rfl) dX4_landLawsBehind_36 [0, 5, 6] (by decide) rfl (ws' := fun u => [(x, .inr (4, [.ref ax, .ref aw, .ref an, .ref aa, .ref a0, .ref a1, .int (nI sk), .int (nI ll), .long sd, .ref ar, .ref aq, .ref al, .ref am])), (aw, .inr (3, [.ref wd, .ref wt, .int (nI W)])), (wt, .inl (cI, 4, .inl tf)), (an, .inr (1, [.ref nc, .int (nI L.length), .int (nI li), .int ye, .int br])), (nc, .inl (cI, 48, .inl f)), (ar, .inr (1, [.ref rc, .int (nI ((yearsL st q n L).length)), .int (nI q), .int y28, .int br])), (rc, .inl (cI, 48, .inl g28))]) (st' := fun u => [.int (nI (llN ll (yearsL st q n L)))]) (fun _ => rfl) (fun _ => rfl) (fun _ => rfl) (fun _ _ => ?_)
  exact ret (g28, y28) _ _ _ (nI (llN ll (yearsL st q n L))) dX4_landLawsBehind_39 (rfl) (rfl) (trivial)

set_option maxHeartbeats 4000000 in
set_option maxRecDepth 100000 in
theorem c4_worthBehindPlan (l : Launch) (D : va_G) (cI cZ cS : ClassId) (x : Nat) (ax : Nat) (aw : Nat) (an : Nat) (aa : Nat) (a0 : Nat) (a1 : Nat) (sk : Nat) (ll : Nat) (ar : Nat) (aq : Nat) (al : Nat) (am : Nat) (sd : Int64) (wd : Nat) (wt : Nat) (W : Nat) (df : Nat → Int32) (tf : Nat → Int32) (dp : Nat → Nat) (st : Nat → Nat) (A : Nat) (h : Nat) (c : Nat) (L : List Sg) (li : Nat) (ye : Int32) (br : Int32) (f : Nat → Int32) (hf : hs f L) (hv : okL W A L) (hW : W ≤ 4) (hst : ∀ w, w < W → tf w = nI (st w)) (hst2 : ∀ w, w < W → st w ≤ 2) (hl : li < 256) : CO l D (TY cI cZ cS) yX4_worthBehindPlan cX4_worthBehindPlan 2 (some .int) 5 116 0 0 [.ref x, .ref h] [(x, .inr (4, [.ref ax, .ref aw, .ref an, .ref aa, .ref a0, .ref a1, .int (nI sk), .int (nI ll), .long sd, .ref ar, .ref aq, .ref al, .ref am])), (aw, .inr (3, [.ref wd, .ref wt, .int (nI W)])), (wt, .inl (cI, 4, .inl tf)), (h, .inr (1, [.ref c, .int (nI L.length), .int (nI li), .int ye, .int br])), (c, .inl (cI, 48, .inl f))] (σ := (Nat → Int32) × (Int32)) (fun u => some (.int (nI (llN ll (yearsL st li 3 L) * 3)))) (fun u => [(x, .inr (4, [.ref ax, .ref aw, .ref an, .ref aa, .ref a0, .ref a1, .int (nI sk), .int (nI ll), .long sd, .ref ar, .ref aq, .ref al, .ref am])), (aw, .inr (3, [.ref wd, .ref wt, .int (nI W)])), (wt, .inl (cI, 4, .inl tf)), (h, .inr (1, [.ref c, .int (nI ((yearsL st li 3 L).length)), .int (nI li), .int u.2, .int br])), (c, .inl (cI, 48, .inl u.1))]) (fun u => True) := by
  refine CO_mki (by decide +kernel) (Nat.le_of_ble_eq_true rfl) (fun K ok ret => ?_)
  show XX K [(x, .inr (4, [.ref ax, .ref aw, .ref an, .ref aa, .ref a0, .ref a1, .int (nI sk), .int (nI ll), .long sd, .ref ar, .ref aq, .ref al, .ref am])), (aw, .inr (3, [.ref wd, .ref wt, .int (nI W)])), (wt, .inl (cI, 4, .inl tf)), (h, .inr (1, [.ref c, .int (nI L.length), .int (nI li), .int ye, .int br])), (c, .inl (cI, 48, .inl f))] [(0, .ref x), (1, .ref h)] 0 []
  refine x_aload_n ok 1 dX4_worthBehindPlan_0 rfl rfl ?_
  refine x_iconst ok (nI 3) dX4_worthBehindPlan_1 (by decide) ?_
  refine x_aload_n ok 0 dX4_worthBehindPlan_2 rfl rfl ?_
  refine gX4_19 ok dX4_worthBehindPlan_3 0 rfl rfl ?_
  refine qX4_181 ok (As := [.int (nI 3), .ref aw]) (st := []) 3 rfl (c1_goYears l D cI cZ cS h c L li ye br f aw wd wt W tf st A 3 (by first | assumption | omega) (by first | assumption | omega) (by first | assumption | omega) (by first | assumption | omega) (by first | assumption | omega) (by first | assumption | omega) (by first | assumption | omega)) rfl (Nat.le_of_ble_eq_true rfl) (Nat.le_of_ble_eq_true rfl) (Nat.le_of_ble_eq_true rfl) dX4_worthBehindPlan_6 [3, 4, 1, 2] (by decide) rfl (ws' := fun u => [(x, .inr (4, [.ref ax, .ref aw, .ref an, .ref aa, .ref a0, .ref a1, .int (nI sk), .int (nI ll), .long sd, .ref ar, .ref aq, .ref al, .ref am])), (aw, .inr (3, [.ref wd, .ref wt, .int (nI W)])), (wt, .inl (cI, 4, .inl tf)), (h, .inr (1, [.ref c, .int (nI ((yearsL st li 3 L).length)), .int (nI li), .int u.2, .int br])), (c, .inl (cI, 48, .inl u.1))]) (st' := fun u => []) (fun _ => rfl) (fun _ => rfl) (fun _ => rfl) (fun u6 hu6 => ?_)
  obtain ⟨g6, y6⟩ := u6
  have hg6 := hu6
  have hg6 : hs g6 (yearsL st li 3 L) := hg6
  show XX K [(x, .inr (4, [.ref ax, .ref aw, .ref an, .ref aa, .ref a0, .ref a1, .int (nI sk), .int (nI ll), .long sd, .ref ar, .ref aq, .ref al, .ref am])), (aw, .inr (3, [.ref wd, .ref wt, .int (nI W)])), (wt, .inl (cI, 4, .inl tf)), (h, .inr (1, [.ref c, .int (nI ((yearsL st li 3 L).length)), .int (nI li), .int y6, .int br])), (c, .inl (cI, 48, .inl g6))] [(0, .ref x), (1, .ref h)] 9 []
  refine x_iconst ok (nI 3) dX4_worthBehindPlan_9 (by decide) ?_
  refine x_aload_n ok 0 dX4_worthBehindPlan_10 rfl rfl ?_
  refine x_aload_n ok 1 dX4_worthBehindPlan_11 rfl rfl ?_
  refine qX4_208 ok (As := [.ref h]) (st := [.int (nI 3)]) 0 rfl (c4_landLawsIn l D cI cZ cS x ax aw an aa a0 a1 sk ll ar aq al am sd W (A + 3) h c (yearsL st li 3 L) li y6 br g6 (hg6) (years_ok hv 3)) rfl (Nat.le_of_ble_eq_true rfl) (Nat.le_of_ble_eq_true rfl) (Nat.le_of_ble_eq_true rfl) dX4_worthBehindPlan_12 [0, 3, 4] (by decide) rfl (ws' := fun u => [(x, .inr (4, [.ref ax, .ref aw, .ref an, .ref aa, .ref a0, .ref a1, .int (nI sk), .int (nI ll), .long sd, .ref ar, .ref aq, .ref al, .ref am])), (aw, .inr (3, [.ref wd, .ref wt, .int (nI W)])), (wt, .inl (cI, 4, .inl tf)), (h, .inr (1, [.ref c, .int (nI ((yearsL st li 3 L).length)), .int (nI li), .int y6, .int br])), (c, .inl (cI, 48, .inl g6))]) (st' := fun u => [.int (nI (llN ll (yearsL st li 3 L))), .int (nI 3)]) (fun _ => rfl) (fun _ => rfl) (fun _ => rfl) (fun _ _ => ?_)
  refine x_imul ok (nI (3 * (llN ll (yearsL st li 3 L)))) dX4_worthBehindPlan_15 (nN (pk_mul _ _) (by omega)) ?_
  exact ret (g6, y6) _ _ _ (nI (3 * (llN ll (yearsL st li 3 L)))) dX4_worthBehindPlan_16 (rfl) (congrArg nI (Nat.mul_comm _ _)) (trivial)

set_option maxHeartbeats 4000000 in
set_option maxRecDepth 100000 in
theorem c4_bestSecondWorth (l : Launch) (D : va_G) (cI cZ cS : ClassId) (x : Nat) (ax : Nat) (aw : Nat) (an : Nat) (aa : Nat) (a0 : Nat) (a1 : Nat) (sk : Nat) (ll : Nat) (ar : Nat) (aq : Nat) (al : Nat) (am : Nat) (sd : Int64) (wd : Nat) (wt : Nat) (W : Nat) (df : Nat → Int32) (tf : Nat → Int32) (dp : Nat → Nat) (st : Nat → Nat) (A : Nat) (rc : Nat) (L : List Sg) (li : Nat) (ye : Int32) (br : Int32) (f : Nat → Int32) (qc : Nat) (qn : Nat) (ql : Nat) (qy : Int32) (qb : Int32) (qf : Nat → Int32) (hf : hs f L) (hv : okL W A L) (hW : W ≤ 4) (hst : ∀ w, w < W → tf w = nI (st w)) (hst2 : ∀ w, w < W → st w ≤ 2) (hl : li < 256) : CO l D (TY cI cZ cS) yX4_bestSecondWorth cX4_bestSecondWorth 4 (some .int) 6 137 0 0 [.ref x] [(x, .inr (4, [.ref ax, .ref aw, .ref an, .ref aa, .ref a0, .ref a1, .int (nI sk), .int (nI ll), .long sd, .ref ar, .ref aq, .ref al, .ref am])), (aw, .inr (3, [.ref wd, .ref wt, .int (nI W)])), (wt, .inl (cI, 4, .inl tf)), (ar, .inr (1, [.ref rc, .int (nI L.length), .int (nI li), .int ye, .int br])), (rc, .inl (cI, 48, .inl f)), (aq, .inr (1, [.ref qc, .int (nI qn), .int (nI ql), .int qy, .int qb])), (qc, .inl (cI, 48, .inl qf))] (σ := (Nat) × (Nat) × (Int32) × (Int32) × (Nat → Int32)) (fun u => some (.int (zI (bsw ll st W li L (L.length * 2 + 1))))) (fun u => [(x, .inr (4, [.ref ax, .ref aw, .ref an, .ref aa, .ref a0, .ref a1, .int (nI sk), .int (nI ll), .long sd, .ref ar, .ref aq, .ref al, .ref am])), (aw, .inr (3, [.ref wd, .ref wt, .int (nI W)])), (wt, .inl (cI, 4, .inl tf)), (ar, .inr (1, [.ref rc, .int (nI L.length), .int (nI li), .int ye, .int br])), (rc, .inl (cI, 48, .inl f)), (aq, .inr (1, [.ref qc, .int (nI u.1), .int (nI u.2.1), .int u.2.2.1, .int u.2.2.2.1])), (qc, .inl (cI, 48, .inl u.2.2.2.2))]) (fun u => True) := by
  refine CO_mki (by decide +kernel) (Nat.le_of_ble_eq_true rfl) (fun K ok ret => ?_)
  show XX K [(x, .inr (4, [.ref ax, .ref aw, .ref an, .ref aa, .ref a0, .ref a1, .int (nI sk), .int (nI ll), .long sd, .ref ar, .ref aq, .ref al, .ref am])), (aw, .inr (3, [.ref wd, .ref wt, .int (nI W)])), (wt, .inl (cI, 4, .inl tf)), (ar, .inr (1, [.ref rc, .int (nI L.length), .int (nI li), .int ye, .int br])), (rc, .inl (cI, 48, .inl f)), (aq, .inr (1, [.ref qc, .int (nI qn), .int (nI ql), .int qy, .int qb])), (qc, .inl (cI, 48, .inl qf))] [(0, .ref x)] 0 []
  have h8 := hv.1
  refine x_bipush ok ((-100)) dX4_bestSecondWorth_0 (by decide) ?_
  refine x_eq (st' := [.int (zI (bsw ll st W li L 0))]) rfl rfl (by rw [bsw]; exact congrArg (fun q => [Value.int q]) (by decide)) ?_
  refine x_istore_n ok (lv' := [(1, .int (zI (bsw ll st W li L 0))), (0, .ref x)]) dX4_bestSecondWorth_2 rfl (by decide) rfl ?_
  refine x_aload_n ok 1 dX4_bestSecondWorth_3 rfl rfl ?_
  refine gX4_43 ok dX4_bestSecondWorth_4 0 rfl rfl ?_
  refine qX4_185 ok (As := [.ref ar]) (st := []) (c4_deedsOf l D cI cZ cS ar rc L.length li ye br (by first | assumption | omega)) rfl (Nat.le_of_ble_eq_true rfl) (Nat.le_of_ble_eq_true rfl) (Nat.le_of_ble_eq_true rfl) dX4_bestSecondWorth_7 [3] (by decide) rfl (ws' := fun u => [(x, .inr (4, [.ref ax, .ref aw, .ref an, .ref aa, .ref a0, .ref a1, .int (nI sk), .int (nI ll), .long sd, .ref ar, .ref aq, .ref al, .ref am])), (aw, .inr (3, [.ref wd, .ref wt, .int (nI W)])), (wt, .inl (cI, 4, .inl tf)), (ar, .inr (1, [.ref rc, .int (nI L.length), .int (nI li), .int ye, .int br])), (rc, .inl (cI, 48, .inl f)), (aq, .inr (1, [.ref qc, .int (nI qn), .int (nI ql), .int qy, .int qb])), (qc, .inl (cI, 48, .inl qf))]) (st' := fun u => [.int (nI (L.length * 2 + 1))]) (fun _ => rfl) (fun _ => rfl) (fun _ => rfl) (fun _ _ => ?_)
  refine x_istore_n ok (lv' := [(2, .int (nI (L.length * 2 + 1))), (1, .int (zI (bsw ll st W li L 0))), (0, .ref x)]) dX4_bestSecondWorth_10 rfl (by decide) rfl ?_
  refine x_iconst ok (nI 0) dX4_bestSecondWorth_11 (by decide) ?_
  refine x_istore_n ok (lv' := [(3, .int (nI 0)), (2, .int (nI (L.length * 2 + 1))), (1, .int (zI (bsw ll st W li L 0))), (0, .ref x)]) dX4_bestSecondWorth_12 rfl (by decide) rfl ?_
  have L_13 : ∀ (n_13 : Nat) (i : Nat) (n9 : Nat) (l9 : Nat) (y9 : Int32) (b9 : Int32) (f9 : Nat → Int32), L.length * 2 + 1 - i < n_13 → (i ≤ L.length * 2 + 1) → XX K [(x, .inr (4, [.ref ax, .ref aw, .ref an, .ref aa, .ref a0, .ref a1, .int (nI sk), .int (nI ll), .long sd, .ref ar, .ref aq, .ref al, .ref am])), (aw, .inr (3, [.ref wd, .ref wt, .int (nI W)])), (wt, .inl (cI, 4, .inl tf)), (ar, .inr (1, [.ref rc, .int (nI L.length), .int (nI li), .int ye, .int br])), (rc, .inl (cI, 48, .inl f)), (aq, .inr (1, [.ref qc, .int (nI n9), .int (nI l9), .int y9, .int b9])), (qc, .inl (cI, 48, .inl f9))] [(3, .int (nI i)), (2, .int (nI (L.length * 2 + 1))), (1, .int (zI (bsw ll st W li L i))), (0, .ref x)] 13 [] := by
    intro n_13
    induction n_13 with
    | zero => intro i n9 l9 y9 b9 f9 hm; exact absurd hm (Nat.not_lt_zero _)
    | succ n_13 ih_13 =>
      intro i n9 l9 y9 b9 f9 hm_13 hi
      refine x_iload_n ok 0 dX4_bestSecondWorth_13 rfl rfl ?_
      refine x_iload_n ok 1 dX4_bestSecondWorth_14 rfl rfl ?_
      refine x_icmp_geN ok 77 dX4_bestSecondWorth_15 (by decide) (by omega) (by omega) (fun c_15 => ?_) (fun c_15 => ?_)
      · skip
        have e_i : L.length * 2 + 1 = i := by omega
        subst e_i
        refine x_iload_n ok 2 dX4_bestSecondWorth_77 rfl rfl ?_
        exact ret (n9, l9, y9, b9, f9) _ _ _ ((zI (bsw ll st W li L (L.length * 2 + 1)))) dX4_bestSecondWorth_78 (rfl) (by first | rfl | (simp [c_15]; done)) (trivial)
      · skip
        refine x_aload_n ok 3 dX4_bestSecondWorth_18 rfl rfl ?_
        refine gX4_46 ok dX4_bestSecondWorth_19 0 rfl rfl ?_
        refine x_aload_n ok 3 dX4_bestSecondWorth_22 rfl rfl ?_
        refine gX4_43 ok dX4_bestSecondWorth_23 0 rfl rfl ?_
        refine qX4_168 ok (As := [.ref ar]) (st := []) 5 rfl (c1_take l D cI cZ cS aq qc n9 l9 y9 b9 f9 ar rc L li ye br f (by first | assumption | omega) (by first | assumption | omega)) rfl (Nat.le_of_ble_eq_true rfl) (Nat.le_of_ble_eq_true rfl) (Nat.le_of_ble_eq_true rfl) dX4_bestSecondWorth_26 [5, 6, 3, 4] (by decide) rfl (ws' := fun u => [(x, .inr (4, [.ref ax, .ref aw, .ref an, .ref aa, .ref a0, .ref a1, .int (nI sk), .int (nI ll), .long sd, .ref ar, .ref aq, .ref al, .ref am])), (aw, .inr (3, [.ref wd, .ref wt, .int (nI W)])), (wt, .inl (cI, 4, .inl tf)), (ar, .inr (1, [.ref rc, .int (nI L.length), .int (nI li), .int ye, .int br])), (rc, .inl (cI, 48, .inl f)), (aq, .inr (1, [.ref qc, .int (nI L.length), .int (nI li), .int ye, .int br])), (qc, .inl (cI, 48, .inl u))]) (st' := fun u => []) (fun _ => rfl) (fun _ => rfl) (fun _ => rfl) (fun u26 hu26 => ?_)
        obtain ⟨g26, rfl⟩ : ∃ z, z = u26 := ⟨_, rfl⟩
        have hg26 := hu26
        have hg26 : hs g26 L := hg26
        show XX K [(x, .inr (4, [.ref ax, .ref aw, .ref an, .ref aa, .ref a0, .ref a1, .int (nI sk), .int (nI ll), .long sd, .ref ar, .ref aq, .ref al, .ref am])), (aw, .inr (3, [.ref wd, .ref wt, .int (nI W)])), (wt, .inl (cI, 4, .inl tf)), (ar, .inr (1, [.ref rc, .int (nI L.length), .int (nI li), .int ye, .int br])), (rc, .inl (cI, 48, .inl f)), (aq, .inr (1, [.ref qc, .int (nI L.length), .int (nI li), .int ye, .int br])), (qc, .inl (cI, 48, .inl g26))] [(3, .int (nI i)), (2, .int (nI (L.length * 2 + 1))), (1, .int (zI (bsw ll st W li L i))), (0, .ref x)] 29 []
        refine x_aload_n ok 3 dX4_bestSecondWorth_29 rfl rfl ?_
        refine x_aload_n ok 3 dX4_bestSecondWorth_30 rfl rfl ?_
        refine gX4_46 ok dX4_bestSecondWorth_31 0 rfl rfl ?_
        refine x_iload_n ok 0 dX4_bestSecondWorth_34 rfl rfl ?_
        refine qX4_189 ok (As := [.ref aq, .int (nI i)]) (st := []) 0 rfl (c4_isDone l D cI cZ cS x ax aw an aa a0 a1 sk ll ar aq al am sd wd wt W df tf dp st A aq qc L li ye br g26 i (by first | assumption | omega) (by first | assumption | omega) (by first | assumption | omega) (by first | assumption | omega) (by first | assumption | omega) (by first | assumption | omega) (by first | assumption | omega)) rfl (Nat.le_of_ble_eq_true rfl) (Nat.le_of_ble_eq_true rfl) (Nat.le_of_ble_eq_true rfl) dX4_bestSecondWorth_35 [0, 1, 2, 5, 6] (by decide) rfl (ws' := fun u => [(x, .inr (4, [.ref ax, .ref aw, .ref an, .ref aa, .ref a0, .ref a1, .int (nI sk), .int (nI ll), .long sd, .ref ar, .ref aq, .ref al, .ref am])), (aw, .inr (3, [.ref wd, .ref wt, .int (nI W)])), (wt, .inl (cI, 4, .inl tf)), (ar, .inr (1, [.ref rc, .int (nI L.length), .int (nI li), .int ye, .int br])), (rc, .inl (cI, 48, .inl f)), (aq, .inr (1, [.ref qc, .int (nI ((afterL st W li L i).length)), .int (nI li), .int ye, .int u.2])), (qc, .inl (cI, 48, .inl u.1))]) (st' := fun u => [.int (bz (canB W li L i))]) (fun _ => rfl) (fun _ => rfl) (fun _ => rfl) (fun u35 hu35 => ?_)
        obtain ⟨g35, b35⟩ := u35
        have hg35 := hu35
        have hg35 : hs g35 (afterL st W li L i) := hg35
        show XX K [(x, .inr (4, [.ref ax, .ref aw, .ref an, .ref aa, .ref a0, .ref a1, .int (nI sk), .int (nI ll), .long sd, .ref ar, .ref aq, .ref al, .ref am])), (aw, .inr (3, [.ref wd, .ref wt, .int (nI W)])), (wt, .inl (cI, 4, .inl tf)), (ar, .inr (1, [.ref rc, .int (nI L.length), .int (nI li), .int ye, .int br])), (rc, .inl (cI, 48, .inl f)), (aq, .inr (1, [.ref qc, .int (nI ((afterL st W li L i).length)), .int (nI li), .int ye, .int b35])), (qc, .inl (cI, 48, .inl g35))] [(3, .int (nI i)), (2, .int (nI (L.length * 2 + 1))), (1, .int (zI (bsw ll st W li L i))), (0, .ref x)] 38 [.int (bz (canB W li L i))]
        refine x_if_eqB ok 71 dX4_bestSecondWorth_38 (by decide) (fun c_38 => ?_) (fun c_38 => ?_)
        · skip
          refine x_iinc ok (v := nI (i + 1)) (lv' := [(3, .int (nI (i + 1))), (2, .int (nI (L.length * 2 + 1))), (1, .int (zI (bsw ll st W li L i))), (0, .ref x)]) dX4_bestSecondWorth_71 0 rfl (nN (nI_inc _ 1) (by omega)) (by decide) rfl ?_
          refine x_goto ok 13 dX4_bestSecondWorth_74 (by decide) ?_
          rw [show bsw ll st W li L i = bsw ll st W li L (i + 1) from by rw [bsw, if_neg c_38]]
          exact ih_13 (i + 1) ((afterL st W li L i).length) li ye b35 g35 (by omega) (by first | assumption | omega)
        · skip
          have ea : afterL st W li L i = doL st L i := by rw [afterL, if_pos c_38]
          rw [show afterL st W li L i = doL st L i from ea]
          rw [ea] at hg35
          have hdo := do_ok (st := st) hW hv c_38
          have hb1 := bsw_b (ll := ll) (li := li) (st := st) hW hv i
          have hb2 := wor2_b (ll := ll) (st := st) hW hv c_38
          refine x_aload_n ok 3 dX4_bestSecondWorth_41 rfl rfl ?_
          refine gX4_46 ok dX4_bestSecondWorth_42 0 rfl rfl ?_
          refine x_aload_n ok 3 dX4_bestSecondWorth_45 rfl rfl ?_
          refine gX4_19 ok dX4_bestSecondWorth_46 0 rfl rfl ?_
          refine qX4_140 ok (As := [.ref aw]) (st := []) 5 rfl (c1_goYear l D cI cZ cS aq qc (doL st L i) li ye b35 g35 aw wd wt W tf st A (hg35) (hdo) (by first | assumption | omega) (by first | assumption | omega) (by first | assumption | omega) (by first | assumption | omega)) rfl (Nat.le_of_ble_eq_true rfl) (Nat.le_of_ble_eq_true rfl) (Nat.le_of_ble_eq_true rfl) dX4_bestSecondWorth_49 [5, 6, 1, 2] (by decide) rfl (ws' := fun u => [(x, .inr (4, [.ref ax, .ref aw, .ref an, .ref aa, .ref a0, .ref a1, .int (nI sk), .int (nI ll), .long sd, .ref ar, .ref aq, .ref al, .ref am])), (aw, .inr (3, [.ref wd, .ref wt, .int (nI W)])), (wt, .inl (cI, 4, .inl tf)), (ar, .inr (1, [.ref rc, .int (nI L.length), .int (nI li), .int ye, .int br])), (rc, .inl (cI, 48, .inl f)), (aq, .inr (1, [.ref qc, .int (nI ((yearL st li (doL st L i)).length)), .int (nI li), .int (ye + nI 1), .int b35])), (qc, .inl (cI, 48, .inl u))]) (st' := fun u => [.int (nI ((doL st L i).length - (yearL st li (doL st L i)).length))]) (fun _ => rfl) (fun _ => rfl) (fun _ => rfl) (fun u49 hu49 => ?_)
          obtain ⟨g49, rfl⟩ : ∃ z, z = u49 := ⟨_, rfl⟩
          have hg49 := hu49
          have hg49 : hs g49 (yearL st li (doL st L i)) := hg49
          show XX K [(x, .inr (4, [.ref ax, .ref aw, .ref an, .ref aa, .ref a0, .ref a1, .int (nI sk), .int (nI ll), .long sd, .ref ar, .ref aq, .ref al, .ref am])), (aw, .inr (3, [.ref wd, .ref wt, .int (nI W)])), (wt, .inl (cI, 4, .inl tf)), (ar, .inr (1, [.ref rc, .int (nI L.length), .int (nI li), .int ye, .int br])), (rc, .inl (cI, 48, .inl f)), (aq, .inr (1, [.ref qc, .int (nI ((yearL st li (doL st L i)).length)), .int (nI li), .int (ye + nI 1), .int b35])), (qc, .inl (cI, 48, .inl g49))] [(3, .int (nI i)), (2, .int (nI (L.length * 2 + 1))), (1, .int (zI (bsw ll st W li L i))), (0, .ref x)] 52 [.int (nI ((doL st L i).length - (yearL st li (doL st L i)).length))]
          refine x_pop ok dX4_bestSecondWorth_52 rfl ?_
          refine x_iload_n ok 2 dX4_bestSecondWorth_53 rfl rfl ?_
          refine x_iload_n ok 0 dX4_bestSecondWorth_54 rfl rfl ?_
          refine qX4_193 ok (As := [.int (nI i)]) (st := [.int (zI (bsw ll st W li L i))]) (c4_worthOfDeed l D cI cZ cS i (by first | assumption | omega)) rfl (Nat.le_of_ble_eq_true rfl) (Nat.le_of_ble_eq_true rfl) (Nat.le_of_ble_eq_true rfl) dX4_bestSecondWorth_55 [] (by decide) rfl (ws' := fun u => [(x, .inr (4, [.ref ax, .ref aw, .ref an, .ref aa, .ref a0, .ref a1, .int (nI sk), .int (nI ll), .long sd, .ref ar, .ref aq, .ref al, .ref am])), (aw, .inr (3, [.ref wd, .ref wt, .int (nI W)])), (wt, .inl (cI, 4, .inl tf)), (ar, .inr (1, [.ref rc, .int (nI L.length), .int (nI li), .int ye, .int br])), (rc, .inl (cI, 48, .inl f)), (aq, .inr (1, [.ref qc, .int (nI ((yearL st li (doL st L i)).length)), .int (nI li), .int (ye + nI 1), .int b35])), (qc, .inl (cI, 48, .inl g49))]) (st' := fun u => [.int (zI (sgn1 i)), .int (zI (bsw ll st W li L i))]) (fun _ => rfl) (fun _ => rfl) (fun _ => rfl) (fun _ _ => ?_)
          refine x_aload_n ok 3 dX4_bestSecondWorth_58 rfl rfl ?_
          refine x_aload_n ok 3 dX4_bestSecondWorth_59 rfl rfl ?_
          refine gX4_46 ok dX4_bestSecondWorth_60 0 rfl rfl ?_
          refine qX4_196 ok (As := [.ref aq]) (st := [.int (zI (sgn1 i)), .int (zI (bsw ll st W li L i))]) 0 rfl (c4_worthBehindPlan l D cI cZ cS x ax aw an aa a0 a1 sk ll ar aq al am sd wd wt W df tf dp st (A + 1) aq qc (yearL st li (doL st L i)) li (ye + nI 1) b35 g49 (hg49) (year_ok hdo) (by first | assumption | omega) (by first | assumption | omega) (by first | assumption | omega) (by first | assumption | omega)) rfl (Nat.le_of_ble_eq_true rfl) (Nat.le_of_ble_eq_true rfl) (Nat.le_of_ble_eq_true rfl) dX4_bestSecondWorth_63 [0, 1, 2, 5, 6] (by decide) rfl (ws' := fun u => [(x, .inr (4, [.ref ax, .ref aw, .ref an, .ref aa, .ref a0, .ref a1, .int (nI sk), .int (nI ll), .long sd, .ref ar, .ref aq, .ref al, .ref am])), (aw, .inr (3, [.ref wd, .ref wt, .int (nI W)])), (wt, .inl (cI, 4, .inl tf)), (ar, .inr (1, [.ref rc, .int (nI L.length), .int (nI li), .int ye, .int br])), (rc, .inl (cI, 48, .inl f)), (aq, .inr (1, [.ref qc, .int (nI ((yearsL st li 3 (yearL st li (doL st L i))).length)), .int (nI li), .int u.2, .int b35])), (qc, .inl (cI, 48, .inl u.1))]) (st' := fun u => [.int (nI (llN ll (yearsL st li 3 (yearL st li (doL st L i))) * 3)), .int (zI (sgn1 i)), .int (zI (bsw ll st W li L i))]) (fun _ => rfl) (fun _ => rfl) (fun _ => rfl) (fun u63 hu63 => ?_)
          obtain ⟨g63, y63⟩ := u63
          show XX K [(x, .inr (4, [.ref ax, .ref aw, .ref an, .ref aa, .ref a0, .ref a1, .int (nI sk), .int (nI ll), .long sd, .ref ar, .ref aq, .ref al, .ref am])), (aw, .inr (3, [.ref wd, .ref wt, .int (nI W)])), (wt, .inl (cI, 4, .inl tf)), (ar, .inr (1, [.ref rc, .int (nI L.length), .int (nI li), .int ye, .int br])), (rc, .inl (cI, 48, .inl f)), (aq, .inr (1, [.ref qc, .int (nI ((yearsL st li 3 (yearL st li (doL st L i))).length)), .int (nI li), .int y63, .int b35])), (qc, .inl (cI, 48, .inl g63))] [(3, .int (nI i)), (2, .int (nI (L.length * 2 + 1))), (1, .int (zI (bsw ll st W li L i))), (0, .ref x)] 66 [.int (nI (llN ll (yearsL st li 3 (yearL st li (doL st L i))) * 3)), .int (zI (sgn1 i)), .int (zI (bsw ll st W li L i))]
          refine x_iadd ok ((zI (wor2 ll st li L i))) dX4_bestSecondWorth_66 ((zI_addn _ _).trans (by rw [wor2]; congr 1; omega)) ?_
          refine x_mmax ok LX4_205 H_maxT N_Math H_maxC (Nat.le_of_ble_eq_true rfl) (Nat.le_of_ble_eq_true rfl) dX4_bestSecondWorth_67 ((zI (bsw ll st W li L (i + 1)))) ((zI_max (by omega) (by omega) (by omega) (by omega)).trans (by rw [bsw, if_pos c_38])) ?_
          refine x_istore_n ok (lv' := [(1, .int (zI (bsw ll st W li L (i + 1)))), (3, .int (nI i)), (2, .int (nI (L.length * 2 + 1))), (0, .ref x)]) dX4_bestSecondWorth_70 rfl (by decide) rfl ?_
          refine x_iinc ok (v := nI (i + 1)) (lv' := [(3, .int (nI (i + 1))), (1, .int (zI (bsw ll st W li L (i + 1)))), (2, .int (nI (L.length * 2 + 1))), (0, .ref x)]) dX4_bestSecondWorth_71 1 rfl (nN (nI_inc _ 1) (by omega)) (by decide) rfl ?_
          refine x_goto ok 13 dX4_bestSecondWorth_74 (by decide) ?_
          refine x_loc ok [0, 2, 1, 3] (lv' := [(3, .int (nI (i + 1))), (2, .int (nI (L.length * 2 + 1))), (1, .int (zI (bsw ll st W li L (i + 1)))), (0, .ref x)]) rfl ?_
          exact ih_13 (i + 1) ((yearsL st li 3 (yearL st li (doL st L i))).length) li y63 b35 g63 (by omega) (by first | assumption | omega)
  exact L_13 _ 0 qn ql qy qb qf (Nat.lt_succ_self _) (by first | assumption | omega)

set_option maxHeartbeats 4000000 in
set_option maxRecDepth 100000 in
theorem c4_lawsOfWorth (l : Launch) (D : va_G) (cI cZ cS : ClassId) (m : Nat) (hm : m < 1000) : CO l D (TY cI cZ cS) yX4_lawsOfWorth cX4_lawsOfWorth 1 (some .int) 0 0 0 0 [.int (zI ((m : Int) - 2))] [] (σ := Unit) (fun u => some (.int (nI (m / 3)))) (fun u => []) (fun u => True) := by
  refine CO_mki (by decide +kernel) (Nat.le_of_ble_eq_true rfl) (fun K ok ret => ?_)
  show XX K [] [(0, .int (zI ((m : Int) - 2)))] 0 []
  refine x_iload_n ok 0 dX4_lawsOfWorth_0 rfl rfl ?_
  refine x_iconst ok (nI 2) dX4_lawsOfWorth_1 (by decide) ?_
  refine x_iadd ok (nI m) dX4_lawsOfWorth_2 ((zI_addn _ _).trans (by rw [zI_n]; congr 1; omega)) ?_
  refine x_iconst ok (nI 3) dX4_lawsOfWorth_3 (by decide) ?_
  refine x_idiv ok (nI (m / 3)) dX4_lawsOfWorth_4 (by decide) (pk_div (by omega) (by omega) (by omega)) ?_
  exact ret () _ _ _ (nI (m / 3)) dX4_lawsOfWorth_5 (rfl) (rfl) (trivial)

set_option maxHeartbeats 4000000 in
set_option maxRecDepth 100000 in
theorem c4_joinedWithEach (l : Launch) (D : va_G) (cI cZ cS : ClassId) (s : Nat) (o : Nat) (hs : s < 64) (ho : o < 2 ^ 64) : CO l D (TY cI cZ cS) yX4_joinedWithEach cX4_joinedWithEach 6 (some .long) 0 0 0 0 [.int (nI s), .long (lN o)] [] (σ := Unit) (fun u => some (.long (lN (jweN s o 64)))) (fun u => []) (fun u => True) := by
  refine CO_mkl (by decide +kernel) (Nat.le_of_ble_eq_true rfl) (fun K ok ret => ?_)
  show XX K [] [(0, .int (nI s)), (1, .long (lN o))] 0 []
  refine x_lconst ok ((nI 0).toInt64) dX4_joinedWithEach_0 (by decide) ?_
  refine x_eq (st' := [.long (lN 0)]) rfl rfl (rfl) ?_
  refine x_lstore_n ok (lv' := [(3, .long (lN 0)), (0, .int (nI s)), (1, .long (lN o))]) dX4_joinedWithEach_1 rfl (by decide) rfl ?_
  refine x_iconst ok (nI 0) dX4_joinedWithEach_2 (by decide) ?_
  refine x_istore ok (lv' := [(5, .int (nI 0)), (3, .long (lN 0)), (0, .int (nI s)), (1, .long (lN o))]) dX4_joinedWithEach_3 (by decide) rfl ?_
  have L_5 : ∀ (n_5 : Nat) (i : Nat), 64 - i < n_5 → (i ≤ 64) → XX K [] [(5, .int (nI i)), (3, .long (lN (jweN s o i))), (0, .int (nI s)), (1, .long (lN o))] 5 [] := by
    intro n_5
    induction n_5 with
    | zero => intro i hm; exact absurd hm (Nat.not_lt_zero _)
    | succ n_5 ih_5 =>
      intro i hm_5 hi
      refine x_iload ok 0 dX4_joinedWithEach_5 rfl ?_
      refine x_bipush ok (nI 64) dX4_joinedWithEach_7 (by decide) ?_
      refine x_icmp_geN ok 38 dX4_joinedWithEach_9 (by decide) (by omega) (by omega) (fun c_9 => ?_) (fun c_9 => ?_)
      · skip
        have e_i : 64 = i := by omega
        subst e_i
        refine x_lload_n ok 1 dX4_joinedWithEach_38 rfl rfl ?_
        exact ret () _ _ _ (lN (jweN s o 64)) dX4_joinedWithEach_39 (rfl) (by first | rfl | (simp [c_9]; done)) (trivial)
      · skip
        refine x_lload_n ok 3 dX4_joinedWithEach_12 rfl rfl ?_
        refine x_iload ok 0 dX4_joinedWithEach_13 rfl ?_
        refine x_lushr ok (lN (o / 2 ^ i)) dX4_joinedWithEach_15 (wb_shr ho (by omega)) ?_
        refine x_lconst ok ((nI 1).toInt64) dX4_joinedWithEach_16 (by decide) ?_
        refine x_eq (st' := [.long (lN 1), .long (lN (o / 2 ^ i))]) rfl rfl (rfl) ?_
        refine x_land ok (lN ((o.testBit i).toNat)) dX4_joinedWithEach_17 (by have q := lwb_bit (n := o) (k := i) ho (by omega); rw [wb_shr ho (by omega)] at q; exact q) ?_
        refine x_lconst ok ((nI 1).toInt64) dX4_joinedWithEach_18 (by decide) ?_
        refine x_eq (st' := [.long (lN 1), .long (lN ((o.testBit i).toNat))]) rfl rfl (rfl) ?_
        refine x_lcmp ok dX4_joinedWithEach_19 ?_
        refine x_if_ne ok 32 dX4_joinedWithEach_20 (by decide) (fun c_20 => ?_) (fun c_20 => ?_)
        · skip
          have hbt : ¬ o.testBit i = true := fun q => c_20 ((lgc_b _).mpr q)
          refine x_iinc ok (v := nI (i + 1)) (lv' := [(5, .int (nI (i + 1))), (3, .long (lN (jweN s o i))), (0, .int (nI s)), (1, .long (lN o))]) dX4_joinedWithEach_32 0 rfl (nN (nI_inc _ 1) (by omega)) (by decide) rfl ?_
          refine x_goto ok 5 dX4_joinedWithEach_35 (by decide) ?_
          rw [show jweN s o i = jweN s o (i + 1) from by rw [jweN, jweN, orN, if_neg hbt, Nat.or_zero]]
          exact ih_5 (i + 1) (by omega) (by first | assumption | omega)
        · skip
          have hbt : o.testBit i = true := (lgc_b _).mp c_20
          have hsi := or_lt64 hs (show i < 64 by omega)
          have jl := jwe_lt (o := o) hs (show i ≤ 64 by omega)
          refine x_lload_n ok 1 dX4_joinedWithEach_23 rfl rfl ?_
          refine x_lconst ok ((nI 1).toInt64) dX4_joinedWithEach_24 (by decide) ?_
          refine x_eq (st' := [.long (lN 1), .long (lN (jweN s o i))]) rfl rfl (rfl) ?_
          refine x_iload_n ok 2 dX4_joinedWithEach_25 rfl rfl ?_
          refine x_iload ok 0 dX4_joinedWithEach_26 rfl ?_
          refine x_ior ok (nI (s ||| i)) dX4_joinedWithEach_28 (fa_or _ _) ?_
          refine x_lshl ok (lN (2 ^ (s ||| i))) dX4_joinedWithEach_29 (lshl1 _ hsi) ?_
          refine x_lor ok (lN (jweN s o (i + 1))) dX4_joinedWithEach_30 ((wb_or jl (pow_lt64 hsi)).trans (by rw [jweN, jweN, orN, if_pos hbt])) ?_
          refine x_lstore_n ok (lv' := [(3, .long (lN (jweN s o (i + 1)))), (5, .int (nI i)), (0, .int (nI s)), (1, .long (lN o))]) dX4_joinedWithEach_31 rfl (by decide) rfl ?_
          refine x_iinc ok (v := nI (i + 1)) (lv' := [(5, .int (nI (i + 1))), (3, .long (lN (jweN s o (i + 1)))), (0, .int (nI s)), (1, .long (lN o))]) dX4_joinedWithEach_32 1 rfl (nN (nI_inc _ 1) (by omega)) (by decide) rfl ?_
          refine x_goto ok 5 dX4_joinedWithEach_35 (by decide) ?_
          exact ih_5 (i + 1) (by omega) (by first | assumption | omega)
  exact L_5 _ 0 (Nat.lt_succ_self _) (by first | assumption | omega)

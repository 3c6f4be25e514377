theorem gX0_40 : GoodIn ltg (wsS RX0 40 yX0_isAddress (ww yX0_isAddress cX0_isAddress 5 (some .boolean))) := gd_S gd_i wcX0_isAddress (by decide +kernel)
theorem hd_X0_isAddress : yX0_isAddress.cls = RX0 ∧ yX0_isAddress.cls ≠ "java/lang/invoke/MethodHandle" ∧ yX0_isAddress.cls ≠ "java/lang/invoke/VarHandle" ∧ (parseMethodDescriptor yX0_isAddress.desc).map (fun d => d.parameters.length) = some 3 := by decide +kernel
theorem gX0_44 : GoodIn ltg (wsV RX0 44 RX0 yX0_mean (ww yX0_mean cX0_mean 6 none)) := gd_V gd_i wcX0_mean (by decide +kernel)
theorem hd_X0_mean : yX0_mean.cls = RX0 ∧ yX0_mean.cls ≠ "java/lang/invoke/MethodHandle" ∧ yX0_mean.cls ≠ "java/lang/invoke/VarHandle" ∧ (parseMethodDescriptor yX0_mean.desc).map (fun d => d.parameters.length) = some 3 := by decide +kernel
theorem gX0_48 : GoodIn ltg (wsV RX0 48 RX0 yX0_isPrefix (ww yX0_isPrefix cX0_isPrefix 3 (some .boolean))) := gd_V gd_i wcX0_isPrefix (by decide +kernel)
theorem hd_X0_isPrefix : yX0_isPrefix.cls = RX0 ∧ yX0_isPrefix.cls ≠ "java/lang/invoke/MethodHandle" ∧ yX0_isPrefix.cls ≠ "java/lang/invoke/VarHandle" ∧ (parseMethodDescriptor yX0_isPrefix.desc).map (fun d => d.parameters.length) = some 1 := by decide +kernel
theorem gX0_52 : GoodIn ltg (wsV RX0 52 RX0 yX0_countAhead (ww yX0_countAhead cX0_countAhead 3 (some .int))) := gd_V gd_i wcX0_countAhead (by decide +kernel)
theorem hd_X0_countAhead : yX0_countAhead.cls = RX0 ∧ yX0_countAhead.cls ≠ "java/lang/invoke/MethodHandle" ∧ yX0_countAhead.cls ≠ "java/lang/invoke/VarHandle" ∧ (parseMethodDescriptor yX0_countAhead.desc).map (fun d => d.parameters.length) = some 1 := by decide +kernel
theorem gX0_56 : GoodIn ltg (wsV RX0 56 RX0 yX0_standsAt (ww yX0_standsAt cX0_standsAt 3 (some .boolean))) := gd_V gd_i wcX0_standsAt (by decide +kernel)
theorem hd_X0_standsAt : yX0_standsAt.cls = RX0 ∧ yX0_standsAt.cls ≠ "java/lang/invoke/MethodHandle" ∧ yX0_standsAt.cls ≠ "java/lang/invoke/VarHandle" ∧ (parseMethodDescriptor yX0_standsAt.desc).map (fun d => d.parameters.length) = some 2 := by decide +kernel
theorem gX0_60 : GoodIn ltg (wsV RX0 60 RX0 yX0_openPlace (ww yX0_openPlace cX0_openPlace 3 none)) := gd_V gd_i wcX0_openPlace (by decide +kernel)
theorem hd_X0_openPlace : yX0_openPlace.cls = RX0 ∧ yX0_openPlace.cls ≠ "java/lang/invoke/MethodHandle" ∧ yX0_openPlace.cls ≠ "java/lang/invoke/VarHandle" ∧ (parseMethodDescriptor yX0_openPlace.desc).map (fun d => d.parameters.length) = some 1 := by decide +kernel
theorem gX0_64 : GoodIn ltg (wsV RX0 64 RX0 yX0_write (ww yX0_write cX0_write 4 none)) := gd_V gd_i wcX0_write (by decide +kernel)
theorem hd_X0_write : yX0_write.cls = RX0 ∧ yX0_write.cls ≠ "java/lang/invoke/MethodHandle" ∧ yX0_write.cls ≠ "java/lang/invoke/VarHandle" ∧ (parseMethodDescriptor yX0_write.desc).map (fun d => d.parameters.length) = some 3 := by decide +kernel
theorem gX0_68 : GoodIn ltg (wsV RX0 68 RX0 yX0_closePlace (ww yX0_closePlace cX0_closePlace 3 none)) := gd_V gd_i wcX0_closePlace (by decide +kernel)
theorem hd_X0_closePlace : yX0_closePlace.cls = RX0 ∧ yX0_closePlace.cls ≠ "java/lang/invoke/MethodHandle" ∧ yX0_closePlace.cls ≠ "java/lang/invoke/VarHandle" ∧ (parseMethodDescriptor yX0_closePlace.desc).map (fun d => d.parameters.length) = some 1 := by decide +kernel
theorem gX0_72 : GoodIn ltg (wsV RX0 72 RX0 yX0_coversMeant (ww yX0_coversMeant cX0_coversMeant 3 (some .boolean))) := gd_V gd_i wcX0_coversMeant (by decide +kernel)
theorem hd_X0_coversMeant : yX0_coversMeant.cls = RX0 ∧ yX0_coversMeant.cls ≠ "java/lang/invoke/MethodHandle" ∧ yX0_coversMeant.cls ≠ "java/lang/invoke/VarHandle" ∧ (parseMethodDescriptor yX0_coversMeant.desc).map (fun d => d.parameters.length) = some 1 := by decide +kernel
theorem gX0_75 : GoodIn ltg (wsV RX0 75 RX0 yX0_isLength (ww yX0_isLength cX0_isLength 3 (some .boolean))) := gd_V gd_i wcX0_isLength (by decide +kernel)
theorem hd_X0_isLength : yX0_isLength.cls = RX0 ∧ yX0_isLength.cls ≠ "java/lang/invoke/MethodHandle" ∧ yX0_isLength.cls ≠ "java/lang/invoke/VarHandle" ∧ (parseMethodDescriptor yX0_isLength.desc).map (fun d => d.parameters.length) = some 1 := by decide +kernel
theorem gX0_80 : GoodIn ltg (wsS RX0 80 yX0_bitsOfWhole (ww yX0_bitsOfWhole cX0_bitsOfWhole 2 (some .int))) := gd_S gd_i wcX0_bitsOfWhole (by decide +kernel)
theorem hd_X0_bitsOfWhole : yX0_bitsOfWhole.cls = RX0 ∧ yX0_bitsOfWhole.cls ≠ "java/lang/invoke/MethodHandle" ∧ yX0_bitsOfWhole.cls ≠ "java/lang/invoke/VarHandle" ∧ (parseMethodDescriptor yX0_bitsOfWhole.desc).map (fun d => d.parameters.length) = some 2 := by decide +kernel
theorem gX0_84 : GoodIn ltg (wsS RX0 84 yX0_upperMask (ww yX0_upperMask cX0_upperMask 1 (some .long))) := gd_S gd_i wcX0_upperMask (by decide +kernel)
theorem hd_X0_upperMask : yX0_upperMask.cls = RX0 ∧ yX0_upperMask.cls ≠ "java/lang/invoke/MethodHandle" ∧ yX0_upperMask.cls ≠ "java/lang/invoke/VarHandle" ∧ (parseMethodDescriptor yX0_upperMask.desc).map (fun d => d.parameters.length) = some 1 := by decide +kernel
theorem gX0_90 : GoodIn ltg (wsS RX0 90 yX0_lowerMask (ww yX0_lowerMask cX0_lowerMask 1 (some .long))) := gd_S gd_i wcX0_lowerMask (by decide +kernel)
theorem hd_X0_lowerMask : yX0_lowerMask.cls = RX0 ∧ yX0_lowerMask.cls ≠ "java/lang/invoke/MethodHandle" ∧ yX0_lowerMask.cls ≠ "java/lang/invoke/VarHandle" ∧ (parseMethodDescriptor yX0_lowerMask.desc).map (fun d => d.parameters.length) = some 1 := by decide +kernel
theorem gX0_93 : GoodIn ltg (wsS RX0 93 yX0_firstBits (ww yX0_firstBits cX0_firstBits 1 (some .long))) := gd_S gd_i wcX0_firstBits (by decide +kernel)
theorem hd_X0_firstBits : yX0_firstBits.cls = RX0 ∧ yX0_firstBits.cls ≠ "java/lang/invoke/MethodHandle" ∧ yX0_firstBits.cls ≠ "java/lang/invoke/VarHandle" ∧ (parseMethodDescriptor yX0_firstBits.desc).map (fun d => d.parameters.length) = some 1 := by decide +kernel
theorem gX0_96 : GoodIn ltg (wsV RX0 96 RX0 yX0_standsAhead (ww yX0_standsAhead cX0_standsAhead 3 (some .boolean))) := gd_V gd_i wcX0_standsAhead (by decide +kernel)
theorem hd_X0_standsAhead : yX0_standsAhead.cls = RX0 ∧ yX0_standsAhead.cls ≠ "java/lang/invoke/MethodHandle" ∧ yX0_standsAhead.cls ≠ "java/lang/invoke/VarHandle" ∧ (parseMethodDescriptor yX0_standsAhead.desc).map (fun d => d.parameters.length) = some 2 := by decide +kernel
theorem gX0_99 : GoodIn ltg (wsS RX0 99 yX0_isBelow (ww yX0_isBelow cX0_isBelow 4 (some .boolean))) := gd_S gd_i wcX0_isBelow (by decide +kernel)
theorem hd_X0_isBelow : yX0_isBelow.cls = RX0 ∧ yX0_isBelow.cls ≠ "java/lang/invoke/MethodHandle" ∧ yX0_isBelow.cls ≠ "java/lang/invoke/VarHandle" ∧ (parseMethodDescriptor yX0_isBelow.desc).map (fun d => d.parameters.length) = some 2 := by decide +kernel
theorem gX0_105 : GoodIn ltg (wsV RX0 105 RX0 yX0_copyPlace (ww yX0_copyPlace cX0_copyPlace 3 none)) := gd_V gd_i wcX0_copyPlace (by decide +kernel)
theorem hd_X0_copyPlace : yX0_copyPlace.cls = RX0 ∧ yX0_copyPlace.cls ≠ "java/lang/invoke/MethodHandle" ∧ yX0_copyPlace.cls ≠ "java/lang/invoke/VarHandle" ∧ (parseMethodDescriptor yX0_copyPlace.desc).map (fun d => d.parameters.length) = some 2 := by decide +kernel
theorem gX1_39 : GoodIn ltg (wsV RX1 39 RX1 yX1_isLength (ww yX1_isLength cX1_isLength 2 (some .boolean))) := gd_V gd_i wcX1_isLength (by decide +kernel)
theorem hd_X1_isLength : yX1_isLength.cls = RX1 ∧ yX1_isLength.cls ≠ "java/lang/invoke/MethodHandle" ∧ yX1_isLength.cls ≠ "java/lang/invoke/VarHandle" ∧ (parseMethodDescriptor yX1_isLength.desc).map (fun d => d.parameters.length) = some 1 := by decide +kernel
theorem gX1_43 : GoodIn ltg (wsS RX1 43 yX1_bit (ww yX1_bit cX1_bit 6 (some .int))) := gd_S gd_i wcX1_bit (by decide +kernel)
theorem hd_X1_bit : yX1_bit.cls = RX1 ∧ yX1_bit.cls ≠ "java/lang/invoke/MethodHandle" ∧ yX1_bit.cls ≠ "java/lang/invoke/VarHandle" ∧ (parseMethodDescriptor yX1_bit.desc).map (fun d => d.parameters.length) = some 4 := by decide +kernel
theorem gX1_50 : GoodIn ltg (wsV RX1 50 RX1 yX1_isPrefix (ww yX1_isPrefix cX1_isPrefix 5 (some .boolean))) := gd_V gd_i wcX1_isPrefix (by decide +kernel)
theorem hd_X1_isPrefix : yX1_isPrefix.cls = RX1 ∧ yX1_isPrefix.cls ≠ "java/lang/invoke/MethodHandle" ∧ yX1_isPrefix.cls ≠ "java/lang/invoke/VarHandle" ∧ (parseMethodDescriptor yX1_isPrefix.desc).map (fun d => d.parameters.length) = some 1 := by decide +kernel
theorem gX1_53 : GoodIn ltg (wsV RX1 53 RX1 yX1_find (ww yX1_find cX1_find 3 (some .int))) := gd_V gd_i wcX1_find (by decide +kernel)
theorem hd_X1_find : yX1_find.cls = RX1 ∧ yX1_find.cls ≠ "java/lang/invoke/MethodHandle" ∧ yX1_find.cls ≠ "java/lang/invoke/VarHandle" ∧ (parseMethodDescriptor yX1_find.desc).map (fun d => d.parameters.length) = some 1 := by decide +kernel
theorem gX1_58 : GoodIn ltg (wsV RX1 58 RX1 yX1_covers (ww yX1_covers cX1_covers 4 (some .boolean))) := gd_V gd_i wcX1_covers (by decide +kernel)
theorem hd_X1_covers : yX1_covers.cls = RX1 ∧ yX1_covers.cls ≠ "java/lang/invoke/MethodHandle" ∧ yX1_covers.cls ≠ "java/lang/invoke/VarHandle" ∧ (parseMethodDescriptor yX1_covers.desc).map (fun d => d.parameters.length) = some 1 := by decide +kernel
theorem gX1_63 : GoodIn ltg (wsS RX1 63 yX1_compare (ww yX1_compare cX1_compare 8 (some .int))) := gd_S gd_i wcX1_compare (by decide +kernel)
theorem hd_X1_compare : yX1_compare.cls = RX1 ∧ yX1_compare.cls ≠ "java/lang/invoke/MethodHandle" ∧ yX1_compare.cls ≠ "java/lang/invoke/VarHandle" ∧ (parseMethodDescriptor yX1_compare.desc).map (fun d => d.parameters.length) = some 2 := by decide +kernel
theorem gX1_67 : GoodIn ltg (wsV RX1 67 RX1 yX1_isAhead (ww yX1_isAhead cX1_isAhead 10 (some .boolean))) := gd_V gd_i wcX1_isAhead (by decide +kernel)
theorem hd_X1_isAhead : yX1_isAhead.cls = RX1 ∧ yX1_isAhead.cls ≠ "java/lang/invoke/MethodHandle" ∧ yX1_isAhead.cls ≠ "java/lang/invoke/VarHandle" ∧ (parseMethodDescriptor yX1_isAhead.desc).map (fun d => d.parameters.length) = some 5 := by decide +kernel
theorem gX1_71 : GoodIn ltg (wsV RX1 71 RX1 yX1_countAhead (ww yX1_countAhead cX1_countAhead 9 (some .int))) := gd_V gd_i wcX1_countAhead (by decide +kernel)
theorem hd_X1_countAhead : yX1_countAhead.cls = RX1 ∧ yX1_countAhead.cls ≠ "java/lang/invoke/MethodHandle" ∧ yX1_countAhead.cls ≠ "java/lang/invoke/VarHandle" ∧ (parseMethodDescriptor yX1_countAhead.desc).map (fun d => d.parameters.length) = some 4 := by decide +kernel
theorem gL_15 : GoodIn ltg (wsV RL 15 RX0 yX0_address (ww yX0_address cX0_address 6 (some .boolean))) := gd_V gd_i wcX0_address (by decide +kernel)
theorem hd_X0_address : yX0_address.cls = RX0 ∧ yX0_address.cls ≠ "java/lang/invoke/MethodHandle" ∧ yX0_address.cls ≠ "java/lang/invoke/VarHandle" ∧ (parseMethodDescriptor yX0_address.desc).map (fun d => d.parameters.length) = some 3 := by decide +kernel
theorem gL_19 : GoodIn ltg (wsV RL 19 RX1 yX1_address (ww yX1_address cX1_address 7 (some .boolean))) := gd_V gd_i wcX1_address (by decide +kernel)
theorem hd_X1_address : yX1_address.cls = RX1 ∧ yX1_address.cls ≠ "java/lang/invoke/MethodHandle" ∧ yX1_address.cls ≠ "java/lang/invoke/VarHandle" ∧ (parseMethodDescriptor yX1_address.desc).map (fun d => d.parameters.length) = some 3 := by decide +kernel
theorem gL_20 : GoodIn ltg (wsV RL 20 RX0 yX0_put (ww yX0_put cX0_put 4 (some .int))) := gd_V gd_i wcX0_put (by decide +kernel)
theorem hd_X0_put : yX0_put.cls = RX0 ∧ yX0_put.cls ≠ "java/lang/invoke/MethodHandle" ∧ yX0_put.cls ≠ "java/lang/invoke/VarHandle" ∧ (parseMethodDescriptor yX0_put.desc).map (fun d => d.parameters.length) = some 2 := by decide +kernel
theorem gL_24 : GoodIn ltg (wsV RL 24 RX1 yX1_put (ww yX1_put cX1_put 4 (some .int))) := gd_V gd_i wcX1_put (by decide +kernel)
theorem hd_X1_put : yX1_put.cls = RX1 ∧ yX1_put.cls ≠ "java/lang/invoke/MethodHandle" ∧ yX1_put.cls ≠ "java/lang/invoke/VarHandle" ∧ (parseMethodDescriptor yX1_put.desc).map (fun d => d.parameters.length) = some 2 := by decide +kernel
theorem gL_25 : GoodIn ltg (wsV RL 25 RX0 yX0_remove (ww yX0_remove cX0_remove 3 (some .int))) := gd_V gd_i wcX0_remove (by decide +kernel)
theorem hd_X0_remove : yX0_remove.cls = RX0 ∧ yX0_remove.cls ≠ "java/lang/invoke/MethodHandle" ∧ yX0_remove.cls ≠ "java/lang/invoke/VarHandle" ∧ (parseMethodDescriptor yX0_remove.desc).map (fun d => d.parameters.length) = some 1 := by decide +kernel
theorem gL_29 : GoodIn ltg (wsV RL 29 RX1 yX1_remove (ww yX1_remove cX1_remove 4 (some .int))) := gd_V gd_i wcX1_remove (by decide +kernel)
theorem hd_X1_remove : yX1_remove.cls = RX1 ∧ yX1_remove.cls ≠ "java/lang/invoke/MethodHandle" ∧ yX1_remove.cls ≠ "java/lang/invoke/VarHandle" ∧ (parseMethodDescriptor yX1_remove.desc).map (fun d => d.parameters.length) = some 1 := by decide +kernel
theorem gL_30 : GoodIn ltg (wsV RL 30 RX0 yX0_number (ww yX0_number cX0_number 3 (some .int))) := gd_V gd_i wcX0_number (by decide +kernel)
theorem hd_X0_number : yX0_number.cls = RX0 ∧ yX0_number.cls ≠ "java/lang/invoke/MethodHandle" ∧ yX0_number.cls ≠ "java/lang/invoke/VarHandle" ∧ (parseMethodDescriptor yX0_number.desc).map (fun d => d.parameters.length) = some 1 := by decide +kernel
theorem gL_33 : GoodIn ltg (wsV RL 33 RX1 yX1_number (ww yX1_number cX1_number 3 (some .int))) := gd_V gd_i wcX1_number (by decide +kernel)
theorem hd_X1_number : yX1_number.cls = RX1 ∧ yX1_number.cls ≠ "java/lang/invoke/MethodHandle" ∧ yX1_number.cls ≠ "java/lang/invoke/VarHandle" ∧ (parseMethodDescriptor yX1_number.desc).map (fun d => d.parameters.length) = some 1 := by decide +kernel
theorem gL_34 : GoodIn ltg (wsV RL 34 RX0 yX0_longest (ww yX0_longest cX0_longest 3 (some .int))) := gd_V gd_i wcX0_longest (by decide +kernel)
theorem hd_X0_longest : yX0_longest.cls = RX0 ∧ yX0_longest.cls ≠ "java/lang/invoke/MethodHandle" ∧ yX0_longest.cls ≠ "java/lang/invoke/VarHandle" ∧ (parseMethodDescriptor yX0_longest.desc).map (fun d => d.parameters.length) = some 0 := by decide +kernel
theorem gL_38 : GoodIn ltg (wsV RL 38 RX1 yX1_longest (ww yX1_longest cX1_longest 3 (some .int))) := gd_V gd_i wcX1_longest (by decide +kernel)
theorem hd_X1_longest : yX1_longest.cls = RX1 ∧ yX1_longest.cls ≠ "java/lang/invoke/MethodHandle" ∧ yX1_longest.cls ≠ "java/lang/invoke/VarHandle" ∧ (parseMethodDescriptor yX1_longest.desc).map (fun d => d.parameters.length) = some 0 := by decide +kernel
theorem gL_39 : GoodIn ltg (wsV RL 39 RX0 yX0_covering (ww yX0_covering cX0_covering 3 (some .int))) := gd_V gd_i wcX0_covering (by decide +kernel)
theorem hd_X0_covering : yX0_covering.cls = RX0 ∧ yX0_covering.cls ≠ "java/lang/invoke/MethodHandle" ∧ yX0_covering.cls ≠ "java/lang/invoke/VarHandle" ∧ (parseMethodDescriptor yX0_covering.desc).map (fun d => d.parameters.length) = some 0 := by decide +kernel
theorem gL_42 : GoodIn ltg (wsV RL 42 RX1 yX1_covering (ww yX1_covering cX1_covering 3 (some .int))) := gd_V gd_i wcX1_covering (by decide +kernel)
theorem hd_X1_covering : yX1_covering.cls = RX1 ∧ yX1_covering.cls ≠ "java/lang/invoke/MethodHandle" ∧ yX1_covering.cls ≠ "java/lang/invoke/VarHandle" ∧ (parseMethodDescriptor yX1_covering.desc).map (fun d => d.parameters.length) = some 0 := by decide +kernel
theorem gL_43 : GoodIn ltg (wsV RL 43 RX0 yX0_ahead (ww yX0_ahead cX0_ahead 2 (some .int))) := gd_V gd_i wcX0_ahead (by decide +kernel)
theorem hd_X0_ahead : yX0_ahead.cls = RX0 ∧ yX0_ahead.cls ≠ "java/lang/invoke/MethodHandle" ∧ yX0_ahead.cls ≠ "java/lang/invoke/VarHandle" ∧ (parseMethodDescriptor yX0_ahead.desc).map (fun d => d.parameters.length) = some 1 := by decide +kernel
theorem gL_46 : GoodIn ltg (wsV RL 46 RX1 yX1_ahead (ww yX1_ahead cX1_ahead 2 (some .int))) := gd_V gd_i wcX1_ahead (by decide +kernel)
theorem hd_X1_ahead : yX1_ahead.cls = RX1 ∧ yX1_ahead.cls ≠ "java/lang/invoke/MethodHandle" ∧ yX1_ahead.cls ≠ "java/lang/invoke/VarHandle" ∧ (parseMethodDescriptor yX1_ahead.desc).map (fun d => d.parameters.length) = some 1 := by decide +kernel
theorem gL_47 : GoodIn ltg (wsV RL 47 RX0 yX0_at (ww yX0_at cX0_at 2 (some .int))) := gd_V gd_i wcX0_at (by decide +kernel)
theorem hd_X0_at : yX0_at.cls = RX0 ∧ yX0_at.cls ≠ "java/lang/invoke/MethodHandle" ∧ yX0_at.cls ≠ "java/lang/invoke/VarHandle" ∧ (parseMethodDescriptor yX0_at.desc).map (fun d => d.parameters.length) = some 1 := by decide +kernel
theorem gL_50 : GoodIn ltg (wsV RL 50 RX1 yX1_at (ww yX1_at cX1_at 3 (some .int))) := gd_V gd_i wcX1_at (by decide +kernel)
theorem hd_X1_at : yX1_at.cls = RX1 ∧ yX1_at.cls ≠ "java/lang/invoke/MethodHandle" ∧ yX1_at.cls ≠ "java/lang/invoke/VarHandle" ∧ (parseMethodDescriptor yX1_at.desc).map (fun d => d.parameters.length) = some 1 := by decide +kernel
theorem gL_51 : GoodIn ltg (wsV RL 51 RX0 yX0_size (ww yX0_size cX0_size 1 (some .int))) := gd_V gd_i wcX0_size (by decide +kernel)
theorem hd_X0_size : yX0_size.cls = RX0 ∧ yX0_size.cls ≠ "java/lang/invoke/MethodHandle" ∧ yX0_size.cls ≠ "java/lang/invoke/VarHandle" ∧ (parseMethodDescriptor yX0_size.desc).map (fun d => d.parameters.length) = some 0 := by decide +kernel
theorem gL_54 : GoodIn ltg (wsV RL 54 RX1 yX1_size (ww yX1_size cX1_size 1 (some .int))) := gd_V gd_i wcX1_size (by decide +kernel)
theorem hd_X1_size : yX1_size.cls = RX1 ∧ yX1_size.cls ≠ "java/lang/invoke/MethodHandle" ∧ yX1_size.cls ≠ "java/lang/invoke/VarHandle" ∧ (parseMethodDescriptor yX1_size.desc).map (fun d => d.parameters.length) = some 0 := by decide +kernel
theorem gL_55 : GoodIn ltg (wsV RL 55 RX0 yX0_told (ww yX0_told cX0_told 2 (some .long))) := gd_V gd_i wcX0_told (by decide +kernel)
theorem hd_X0_told : yX0_told.cls = RX0 ∧ yX0_told.cls ≠ "java/lang/invoke/MethodHandle" ∧ yX0_told.cls ≠ "java/lang/invoke/VarHandle" ∧ (parseMethodDescriptor yX0_told.desc).map (fun d => d.parameters.length) = some 1 := by decide +kernel
theorem gL_59 : GoodIn ltg (wsV RL 59 RX1 yX1_told (ww yX1_told cX1_told 2 (some .long))) := gd_V gd_i wcX1_told (by decide +kernel)
theorem hd_X1_told : yX1_told.cls = RX1 ∧ yX1_told.cls ≠ "java/lang/invoke/MethodHandle" ∧ yX1_told.cls ≠ "java/lang/invoke/VarHandle" ∧ (parseMethodDescriptor yX1_told.desc).map (fun d => d.parameters.length) = some 1 := by decide +kernel

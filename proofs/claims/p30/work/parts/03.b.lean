set_option maxRecDepth 20000 in
theorem gw_wsJ2_newBytesFor_77867 : wsJ2_newBytesFor_77867.all goodWord = true := by decide +kernel
set_option maxRecDepth 20000 in
theorem gw_wsJ5_newCapacity_0f7a4 : wsJ5_newCapacity_0f7a4.all goodWord = true := by decide +kernel
set_option maxRecDepth 20000 in
theorem gw_wsJ7_copyOf_9075b : wsJ7_copyOf_9075b.all goodWord = true := by decide +kernel
set_option maxRecDepth 20000 in
theorem gw_wsJ8_newLength_cabcc : wsJ8_newLength_cabcc.all goodWord = true := by decide +kernel
set_option maxRecDepth 20000 in
theorem gw_wsJ5_ensureCapacityInternal_d00df : wsJ5_ensureCapacityInternal_d00df.all goodWord = true := by decide +kernel
set_option maxRecDepth 20000 in
theorem gw_wsJ5_isLatin1_aae02 : wsJ5_isLatin1_aae02.all goodWord = true := by decide +kernel
set_option maxRecDepth 20000 in
theorem gw_wsJ1_canEncode_fc78d : wsJ1_canEncode_fc78d.all goodWord = true := by decide +kernel
set_option maxRecDepth 20000 in
theorem gw_wsJ5_inflate_da8c8 : wsJ5_inflate_da8c8.all goodWord = true := by decide +kernel
set_option maxRecDepth 20000 in
theorem gw_wsJ2_putCharSB_b72d1 : wsJ2_putCharSB_b72d1.all goodWord = true := by decide +kernel
set_option maxRecDepth 20000 in
theorem gw_wsJ6_stringSize_0f7a4 : wsJ6_stringSize_0f7a4.all goodWord = true := by decide +kernel
set_option maxRecDepth 20000 in
theorem gw_wsJ6_getChars_ba4f3 : wsJ6_getChars_ba4f3.all goodWord = true := by decide +kernel
set_option maxRecDepth 20000 in
theorem gw_wsJ2_getChars_46870 : wsJ2_getChars_46870.all goodWord = true := by decide +kernel
set_option maxRecDepth 20000 in
theorem gw_wsJ0_init_db425 : wsJ0_init_db425.all goodWord = true := by decide +kernel
set_option maxRecDepth 20000 in
theorem gw_wsJ5_getValue_6d5f1 : wsJ5_getValue_6d5f1.all goodWord = true := by decide +kernel
set_option maxRecDepth 20000 in
theorem gw_wsJ4_length_8abf5 : wsJ4_length_8abf5.all goodWord = true := by decide +kernel
set_option maxRecDepth 20000 in
theorem gw_wsJ7_copyOfRange_39247 : wsJ7_copyOfRange_39247.all goodWord = true := by decide +kernel
set_option maxRecDepth 20000 in
theorem gw_wsJ2_compress_39247 : wsJ2_compress_39247.all goodWord = true := by decide +kernel
set_option maxRecDepth 20000 in
theorem gw_wsJ2_coderFromArrayLen_85cad : wsJ2_coderFromArrayLen_85cad.all goodWord = true := by decide +kernel
set_option maxRecDepth 20000 in
theorem gw_wsJ5_init_d00df : wsJ5_init_d00df.all goodWord = true := by decide +kernel
set_option maxRecDepth 20000 in
theorem gw_wsJ5_append_3fe6f : wsJ5_append_3fe6f.all goodWord = true := by decide +kernel
set_option maxRecDepth 20000 in
theorem gw_wsJ5_append_c97b9 : wsJ5_append_c97b9.all goodWord = true := by decide +kernel
set_option maxRecDepth 20000 in
theorem gw_wsJ0_init_81219 : wsJ0_init_81219.all goodWord = true := by decide +kernel
set_option maxRecDepth 20000 in
theorem gw_wsJ5_length_8abf5 : wsJ5_length_8abf5.all goodWord = true := by decide +kernel
set_option maxRecDepth 20000 in
theorem gw_wsJ7_copyOfRangeByte_39247 : wsJ7_copyOfRangeByte_39247.all goodWord = true := by decide +kernel
set_option maxRecDepth 20000 in
theorem gw_wsJ7_checkLength_df160 : wsJ7_checkLength_df160.all goodWord = true := by decide +kernel
set_option maxRecDepth 20000 in
theorem gw_wsJ8_hugeLength_7cf53 : wsJ8_hugeLength_7cf53.all goodWord = true := by decide +kernel
set_option maxRecDepth 20000 in
theorem gw_wsX2_size : wsX2_size.all goodWord = true := by decide +kernel
set_option maxRecDepth 20000 in
theorem gw_wsX5_size : wsX5_size.all goodWord = true := by decide +kernel
set_option maxRecDepth 20000 in
theorem gw_wsX2_at : wsX2_at.all goodWord = true := by decide +kernel
set_option maxRecDepth 20000 in
theorem gw_wsX5_at : wsX5_at.all goodWord = true := by decide +kernel
set_option maxRecDepth 20000 in
theorem gw_wsX0_grown : wsX0_grown.all goodWord = true := by decide +kernel
set_option maxRecDepth 20000 in
theorem gw_wsX0_greatestOf : wsX0_greatestOf.all goodWord = true := by decide +kernel
set_option maxRecDepth 20000 in
theorem gw_wsX0_measure : wsX0_measure.all goodWord = true := by decide +kernel
set_option maxRecDepth 20000 in
theorem gw_wsX2_init : wsX2_init.all goodWord = true := by decide +kernel
set_option maxRecDepth 20000 in
theorem gw_wsX2_clear : wsX2_clear.all goodWord = true := by decide +kernel
set_option maxRecDepth 20000 in
theorem gw_wsX2_isFull : wsX2_isFull.all goodWord = true := by decide +kernel
set_option maxRecDepth 20000 in
theorem gw_wsX2_add : wsX2_add.all goodWord = true := by decide +kernel
set_option maxRecDepth 20000 in
theorem gw_wsX2_takeFirst : wsX2_takeFirst.all goodWord = true := by decide +kernel
set_option maxRecDepth 20000 in
theorem gw_wsX6_matches : wsX6_matches.all goodWord = true := by decide +kernel
set_option maxRecDepth 20000 in
theorem gw_wsX4_init : wsX4_init.all goodWord = true := by decide +kernel
set_option maxRecDepth 20000 in
theorem gw_wsX2_append : wsX2_append.all goodWord = true := by decide +kernel
set_option maxRecDepth 20000 in
theorem gw_wsX2_exchange : wsX2_exchange.all goodWord = true := by decide +kernel
set_option maxRecDepth 20000 in
theorem gw_wsX0_init : wsX0_init.all goodWord = true := by decide +kernel
set_option maxRecDepth 20000 in
theorem gw_wsX3_note : wsX3_note.all goodWord = true := by decide +kernel
set_option maxRecDepth 20000 in
theorem gw_wsX5_atPlace : wsX5_atPlace.all goodWord = true := by decide +kernel
set_option maxRecDepth 20000 in
theorem gw_wsX5_goTo : wsX5_goTo.all goodWord = true := by decide +kernel
set_option maxRecDepth 20000 in
theorem gw_wsX5_store : wsX5_store.all goodWord = true := by decide +kernel
set_option maxRecDepth 20000 in
theorem gw_wsX1_init : wsX1_init.all goodWord = true := by decide +kernel
set_option maxRecDepth 20000 in
theorem gw_wsX5_init : wsX5_init.all goodWord = true := by decide +kernel
set_option maxRecDepth 20000 in
theorem gw_wsX3_init : wsX3_init.all goodWord = true := by decide +kernel
set_option maxRecDepth 20000 in
theorem gw_wsX5_becomeNew : wsX5_becomeNew.all goodWord = true := by decide +kernel
set_option maxRecDepth 20000 in
theorem gw_wsX6_done : wsX6_done.all goodWord = true := by decide +kernel
set_option maxRecDepth 20000 in
theorem gw_wsX5_becomeSlice : wsX5_becomeSlice.all goodWord = true := by decide +kernel
set_option maxRecDepth 20000 in
theorem gw_wsX5_becomeLike : wsX5_becomeLike.all goodWord = true := by decide +kernel
set_option maxRecDepth 20000 in
theorem gw_wsX6_isStretch : wsX6_isStretch.all goodWord = true := by decide +kernel
set_option maxRecDepth 20000 in
theorem gw_wsX6_refused : wsX6_refused.all goodWord = true := by decide +kernel
set_option maxRecDepth 20000 in
theorem gw_wsX5_becomePart : wsX5_becomePart.all goodWord = true := by decide +kernel
set_option maxRecDepth 20000 in
theorem gw_wsX5_writeSign : wsX5_writeSign.all goodWord = true := by decide +kernel
set_option maxRecDepth 20000 in
theorem gw_wsX6_lowestLetter : wsX6_lowestLetter.all goodWord = true := by decide +kernel
set_option maxRecDepth 20000 in
theorem gw_wsX5_readSign : wsX5_readSign.all goodWord = true := by decide +kernel
set_option maxRecDepth 20000 in
theorem gw_wsJ4_init_da8c8 : wsJ4_init_da8c8.all goodWord = true := by decide +kernel
set_option maxRecDepth 20000 in
theorem gw_wsJ4_append_cf468 : wsJ4_append_cf468.all goodWord = true := by decide +kernel
set_option maxRecDepth 20000 in
theorem gw_wsJ4_toString_0e30d : wsJ4_toString_0e30d.all goodWord = true := by decide +kernel
set_option maxRecDepth 20000 in
theorem gw_wsX6_done_ : wsX6_done_.all goodWord = true := by decide +kernel
set_option maxRecDepth 20000 in
theorem gw_wsX5_setMark : wsX5_setMark.all goodWord = true := by decide +kernel
set_option maxRecDepth 20000 in
theorem gw_wsX5_goToMark : wsX5_goToMark.all goodWord = true := by decide +kernel
set_option maxRecDepth 20000 in
theorem gw_wsX5_moveTextToFront : wsX5_moveTextToFront.all goodWord = true := by decide +kernel
set_option maxRecDepth 20000 in
theorem gw_wsX2_becomeText : wsX2_becomeText.all goodWord = true := by decide +kernel
set_option maxRecDepth 20000 in
theorem gw_wsX2_turnRound : wsX2_turnRound.all goodWord = true := by decide +kernel
set_option maxRecDepth 20000 in
theorem gw_wsX1_makeNew : wsX1_makeNew.all goodWord = true := by decide +kernel
set_option maxRecDepth 20000 in
theorem gw_wsX1_takeIn : wsX1_takeIn.all goodWord = true := by decide +kernel
set_option maxRecDepth 20000 in
theorem gw_wsX6_letOut : wsX6_letOut.all goodWord = true := by decide +kernel
set_option maxRecDepth 20000 in
theorem gw_wsX6_letIn : wsX6_letIn.all goodWord = true := by decide +kernel
set_option maxRecDepth 20000 in
theorem gw_wsX6_copyText : wsX6_copyText.all goodWord = true := by decide +kernel
set_option maxRecDepth 20000 in
theorem gw_wsX6_spelled : wsX6_spelled.all goodWord = true := by decide +kernel
set_option maxRecDepth 20000 in
theorem gw_wsX3_seek : wsX3_seek.all goodWord = true := by decide +kernel
set_option maxRecDepth 20000 in
theorem gw_wsX3_foundAt : wsX3_foundAt.all goodWord = true := by decide +kernel
set_option maxRecDepth 20000 in
theorem gw_wsX6_greatestBorder : wsX6_greatestBorder.all goodWord = true := by decide +kernel
set_option maxRecDepth 20000 in
theorem gw_wsJ4_append_bf812 : wsJ4_append_bf812.all goodWord = true := by decide +kernel
set_option maxRecDepth 20000 in
theorem gw_wsX0_measureChain : wsX0_measureChain.all goodWord = true := by decide +kernel
set_option maxRecDepth 20000 in
theorem gw_wsX0_linkAt : wsX0_linkAt.all goodWord = true := by decide +kernel
set_option maxRecDepth 20000 in
theorem gw_wsX6_firstUnlike : wsX6_firstUnlike.all goodWord = true := by decide +kernel
set_option maxRecDepth 20000 in
theorem gw_wsX6_counted : wsX6_counted.all goodWord = true := by decide +kernel
set_option maxRecDepth 20000 in
theorem gw_wsX5_isOrdered : wsX5_isOrdered.all goodWord = true := by decide +kernel
set_option maxRecDepth 20000 in
theorem gw_wsX6_readsAlike : wsX6_readsAlike.all goodWord = true := by decide +kernel
set_option maxRecDepth 20000 in
theorem gw_wsX6_keptLiesAlike : wsX6_keptLiesAlike.all goodWord = true := by decide +kernel
set_option maxRecDepth 20000 in
theorem gw_wsX6_builderIsSearchedRightly : wsX6_builderIsSearchedRightly.all goodWord = true := by decide +kernel
set_option maxRecDepth 20000 in
theorem gw_wsX6_builderChainIsRight : wsX6_builderChainIsRight.all goodWord = true := by decide +kernel
set_option maxRecDepth 20000 in
theorem gw_wsX1_isWhole : wsX1_isWhole.all goodWord = true := by decide +kernel
set_option maxRecDepth 20000 in
theorem gw_wsX6_mixedWithWindow : wsX6_mixedWithWindow.all goodWord = true := by decide +kernel
set_option maxRecDepth 20000 in
theorem gw_wsX6_mixed : wsX6_mixed.all goodWord = true := by decide +kernel
set_option maxRecDepth 20000 in
theorem gw_wsX6_mixedWithText : wsX6_mixedWithText.all goodWord = true := by decide +kernel
set_option maxRecDepth 20000 in
theorem gw_wsX6_isSound : wsX6_isSound.all goodWord = true := by decide +kernel
set_option maxRecDepth 20000 in
theorem gw_wsX1_giveOut : wsX1_giveOut.all goodWord = true := by decide +kernel
set_option maxRecDepth 20000 in
theorem gw_wsX8_fresh : wsX8_fresh.all goodWord = true := by decide +kernel
set_option maxRecDepth 20000 in
theorem gw_wsX8_isNo : wsX8_isNo.all goodWord = true := by decide +kernel
set_option maxRecDepth 20000 in
theorem gw_wsX8_length : wsX8_length.all goodWord = true := by decide +kernel
set_option maxRecDepth 20000 in
theorem gw_wsX8_text : wsX8_text.all goodWord = true := by decide +kernel
set_option maxRecDepth 20000 in
theorem gw_wsX8_done : wsX8_done.all goodWord = true := by decide +kernel
set_option maxRecDepth 20000 in
theorem gw_wsX8_isNoWindow : wsX8_isNoWindow.all goodWord = true := by decide +kernel
set_option maxRecDepth 20000 in
theorem gw_wsX8_isThrown : wsX8_isThrown.all goodWord = true := by decide +kernel
set_option maxRecDepth 20000 in
theorem gw_wsX8_became : wsX8_became.all goodWord = true := by decide +kernel
set_option maxRecDepth 20000 in
theorem gw_wsX8_refused : wsX8_refused.all goodWord = true := by decide +kernel
set_option maxRecDepth 20000 in
theorem gw_wsX8_write : wsX8_write.all goodWord = true := by decide +kernel
set_option maxRecDepth 20000 in
theorem gw_wsX8_letter : wsX8_letter.all goodWord = true := by decide +kernel
set_option maxRecDepth 20000 in
theorem gw_wsX8_read : wsX8_read.all goodWord = true := by decide +kernel
set_option maxRecDepth 20000 in
theorem gw_wsX8_told : wsX8_told.all goodWord = true := by decide +kernel
set_option maxRecDepth 20000 in
theorem gw_wsX8_place : wsX8_place.all goodWord = true := by decide +kernel
set_option maxRecDepth 20000 in
theorem gw_wsX8_isNoSource : wsX8_isNoSource.all goodWord = true := by decide +kernel
set_option maxRecDepth 20000 in
theorem gw_wsX8_textOf : wsX8_textOf.all goodWord = true := by decide +kernel
set_option maxRecDepth 20000 in
theorem gw_wsX8_joined : wsX8_joined.all goodWord = true := by decide +kernel
set_option maxRecDepth 20000 in
theorem gw_wsX8_markOf : wsX8_markOf.all goodWord = true := by decide +kernel
set_option maxRecDepth 20000 in
theorem gw_wsX8_lies : wsX8_lies.all goodWord = true := by decide +kernel
set_option maxRecDepth 20000 in
theorem gw_wsX8_nth : wsX8_nth.all goodWord = true := by decide +kernel
set_option maxRecDepth 20000 in
theorem gw_wsX8_lastOf : wsX8_lastOf.all goodWord = true := by decide +kernel
set_option maxRecDepth 20000 in
theorem gw_wsX8_places : wsX8_places.all goodWord = true := by decide +kernel
set_option maxRecDepth 20000 in
theorem gw_wsX8_isBorder : wsX8_isBorder.all goodWord = true := by decide +kernel
set_option maxRecDepth 20000 in
theorem gw_wsX8_greatest : wsX8_greatest.all goodWord = true := by decide +kernel
set_option maxRecDepth 20000 in
theorem gw_wsX8_isRight : wsX8_isRight.all goodWord = true := by decide +kernel
set_option maxRecDepth 20000 in
theorem gw_wsX8_mixed : wsX8_mixed.all goodWord = true := by decide +kernel
set_option maxRecDepth 20000 in
theorem gw_wsX6_init : wsX6_init.all goodWord = true := by decide +kernel
set_option maxRecDepth 20000 in
theorem gw_wsX8_init : wsX8_init.all goodWord = true := by decide +kernel
set_option maxRecDepth 20000 in
theorem gw_wsX7_init : wsX7_init.all goodWord = true := by decide +kernel
set_option maxRecDepth 20000 in
theorem gw_wsX8_allocate : wsX8_allocate.all goodWord = true := by decide +kernel
set_option maxRecDepth 20000 in
theorem gw_wsX8_slice : wsX8_slice.all goodWord = true := by decide +kernel
set_option maxRecDepth 20000 in
theorem gw_wsX8_duplicate : wsX8_duplicate.all goodWord = true := by decide +kernel
set_option maxRecDepth 20000 in
theorem gw_wsX8_part : wsX8_part.all goodWord = true := by decide +kernel
set_option maxRecDepth 20000 in
theorem gw_wsX8_put : wsX8_put.all goodWord = true := by decide +kernel
set_option maxRecDepth 20000 in
theorem gw_wsX8_run : wsX8_run.all goodWord = true := by decide +kernel
set_option maxRecDepth 20000 in
theorem gw_wsX8_write_ : wsX8_write_.all goodWord = true := by decide +kernel
set_option maxRecDepth 20000 in
theorem gw_wsX8_get : wsX8_get.all goodWord = true := by decide +kernel
set_option maxRecDepth 20000 in
theorem gw_wsX8_read_ : wsX8_read_.all goodWord = true := by decide +kernel
set_option maxRecDepth 20000 in
theorem gw_wsX8_pour : wsX8_pour.all goodWord = true := by decide +kernel
set_option maxRecDepth 20000 in
theorem gw_wsX8_mark : wsX8_mark.all goodWord = true := by decide +kernel
set_option maxRecDepth 20000 in
theorem gw_wsX8_reset : wsX8_reset.all goodWord = true := by decide +kernel
set_option maxRecDepth 20000 in
theorem gw_wsX8_rewind : wsX8_rewind.all goodWord = true := by decide +kernel
set_option maxRecDepth 20000 in
theorem gw_wsX8_flip : wsX8_flip.all goodWord = true := by decide +kernel
set_option maxRecDepth 20000 in
theorem gw_wsX8_compact : wsX8_compact.all goodWord = true := by decide +kernel
set_option maxRecDepth 20000 in
theorem gw_wsX8_open : wsX8_open.all goodWord = true := by decide +kernel
set_option maxRecDepth 20000 in
theorem gw_wsX8_keep : wsX8_keep.all goodWord = true := by decide +kernel
set_option maxRecDepth 20000 in
theorem gw_wsX8_load : wsX8_load.all goodWord = true := by decide +kernel
set_option maxRecDepth 20000 in
theorem gw_wsX8_build : wsX8_build.all goodWord = true := by decide +kernel
set_option maxRecDepth 20000 in
theorem gw_wsX6_turn : wsX6_turn.all goodWord = true := by decide +kernel
set_option maxRecDepth 20000 in
theorem gw_wsX8_turn : wsX8_turn.all goodWord = true := by decide +kernel
set_option maxRecDepth 20000 in
theorem gw_wsX8_change : wsX8_change.all goodWord = true := by decide +kernel
set_option maxRecDepth 20000 in
theorem gw_wsX8_pipe : wsX8_pipe.all goodWord = true := by decide +kernel
set_option maxRecDepth 20000 in
theorem gw_wsX8_feed : wsX8_feed.all goodWord = true := by decide +kernel
set_option maxRecDepth 20000 in
theorem gw_wsX8_drain : wsX8_drain.all goodWord = true := by decide +kernel
set_option maxRecDepth 20000 in
theorem gw_wsX8_pump : wsX8_pump.all goodWord = true := by decide +kernel
set_option maxRecDepth 20000 in
theorem gw_wsX8_left : wsX8_left.all goodWord = true := by decide +kernel
set_option maxRecDepth 20000 in
theorem gw_wsX8_position : wsX8_position.all goodWord = true := by decide +kernel
set_option maxRecDepth 20000 in
theorem gw_wsX8_limit : wsX8_limit.all goodWord = true := by decide +kernel
set_option maxRecDepth 20000 in
theorem gw_wsX8_capacity : wsX8_capacity.all goodWord = true := by decide +kernel
set_option maxRecDepth 20000 in
theorem gw_wsX8_thrown : wsX8_thrown.all goodWord = true := by decide +kernel
set_option maxRecDepth 20000 in
theorem gw_wsX8_marked : wsX8_marked.all goodWord = true := by decide +kernel
set_option maxRecDepth 20000 in
theorem gw_wsX8_sign : wsX8_sign.all goodWord = true := by decide +kernel
set_option maxRecDepth 20000 in
theorem gw_wsX8_look : wsX8_look.all goodWord = true := by decide +kernel
set_option maxRecDepth 20000 in
theorem gw_wsX8_text_ : wsX8_text_.all goodWord = true := by decide +kernel
set_option maxRecDepth 20000 in
theorem gw_wsX8_inner : wsX8_inner.all goodWord = true := by decide +kernel
set_option maxRecDepth 20000 in
theorem gw_wsX8_first : wsX8_first.all goodWord = true := by decide +kernel
set_option maxRecDepth 20000 in
theorem gw_wsX8_last : wsX8_last.all goodWord = true := by decide +kernel
set_option maxRecDepth 20000 in
theorem gw_wsX8_count : wsX8_count.all goodWord = true := by decide +kernel
set_option maxRecDepth 20000 in
theorem gw_wsX8_place_ : wsX8_place_.all goodWord = true := by decide +kernel
set_option maxRecDepth 20000 in
theorem gw_wsX8_border : wsX8_border.all goodWord = true := by decide +kernel
set_option maxRecDepth 20000 in
theorem gw_wsX8_borders : wsX8_borders.all goodWord = true := by decide +kernel
set_option maxRecDepth 20000 in
theorem gw_wsX8_chain : wsX8_chain.all goodWord = true := by decide +kernel
set_option maxRecDepth 20000 in
theorem gw_wsX8_differ : wsX8_differ.all goodWord = true := by decide +kernel
set_option maxRecDepth 20000 in
theorem gw_wsX8_known : wsX8_known.all goodWord = true := by decide +kernel
set_option maxRecDepth 20000 in
theorem gw_wsX6_held : wsX6_held.all goodWord = true := by decide +kernel
set_option maxRecDepth 20000 in
theorem gw_wsX8_held : wsX8_held.all goodWord = true := by decide +kernel
set_option maxRecDepth 20000 in
theorem gw_wsX8_travelled : wsX8_travelled.all goodWord = true := by decide +kernel
set_option maxRecDepth 20000 in
theorem gw_wsX8_house : wsX8_house.all goodWord = true := by decide +kernel
set_option maxRecDepth 20000 in
theorem gw_wsX6_knock : wsX6_knock.all goodWord = true := by decide +kernel
set_option maxRecDepth 20000 in
theorem gw_wsX8_knock : wsX8_knock.all goodWord = true := by decide +kernel
set_option maxRecDepth 20000 in
theorem gw_wsX8_isSound : wsX8_isSound.all goodWord = true := by decide +kernel
set_option maxRecDepth 20000 in
theorem gw_wsX6_digest : wsX6_digest.all goodWord = true := by decide +kernel
set_option maxRecDepth 20000 in
theorem gw_wsX8_digest : wsX8_digest.all goodWord = true := by decide +kernel

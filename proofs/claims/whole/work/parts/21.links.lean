theorem iv_0_forgetFirst : Cond.instanceMethod Y0_forgetFirst.1 ∈ gj_tb ∧ Cond.selects Y0_forgetFirst.1.cls Y0_forgetFirst.1 Y0_forgetFirst.1 ∈ gj_tb := ⟨(gj_at 541 (by decide +kernel) rfl), (gj_at 20 (by decide +kernel) rfl)⟩
theorem iv_4_tellPan : Cond.instanceMethod Y4_tellPan.1 ∈ gj_tb ∧ Cond.selects Y4_tellPan.1.cls Y4_tellPan.1 Y4_tellPan.1 ∈ gj_tb := ⟨(gj_at 424 (by decide +kernel) rfl), (gj_at 425 (by decide +kernel) rfl)⟩
theorem iv_4_dropSwitch : Cond.instanceMethod Y4_dropSwitch.1 ∈ gj_tb ∧ Cond.selects Y4_dropSwitch.1.cls Y4_dropSwitch.1 Y4_dropSwitch.1 ∈ gj_tb := ⟨(gj_at 576 (by decide +kernel) rfl), (gj_at 577 (by decide +kernel) rfl)⟩
theorem iv_4_addSwitch : Cond.instanceMethod Y4_addSwitch.1 ∈ gj_tb ∧ Cond.selects Y4_addSwitch.1.cls Y4_addSwitch.1 Y4_addSwitch.1 ∈ gj_tb := ⟨(gj_at 568 (by decide +kernel) rfl), (gj_at 569 (by decide +kernel) rfl)⟩
theorem ii_2_init : Cond.instanceMethod Y2_init.1 ∈ gj_tb := (gj_at 83 (by decide +kernel) rfl)
theorem iv_2_clear : Cond.instanceMethod Y2_clear.1 ∈ gj_tb ∧ Cond.selects Y2_clear.1.cls Y2_clear.1 Y2_clear.1 ∈ gj_tb := ⟨(gj_at 343 (by decide +kernel) rfl), (gj_at 344 (by decide +kernel) rfl)⟩
theorem iv_1_takes : Cond.instanceMethod Y1_takes.1 ∈ gj_tb ∧ Cond.selects Y1_takes.1.cls Y1_takes.1 Y1_takes.1 ∈ gj_tb := ⟨(gj_at 348 (by decide +kernel) rfl), (gj_at 0 (by decide +kernel) rfl)⟩
theorem iv_1_takesDrawing : Cond.instanceMethod Y1_takesDrawing.1 ∈ gj_tb ∧ Cond.selects Y1_takesDrawing.1.cls Y1_takesDrawing.1 Y1_takesDrawing.1 ∈ gj_tb := ⟨(gj_at 352 (by decide +kernel) rfl), (gj_at 1 (by decide +kernel) rfl)⟩
theorem iv_1_takesLevel : Cond.instanceMethod Y1_takesLevel.1 ∈ gj_tb ∧ Cond.selects Y1_takesLevel.1.cls Y1_takesLevel.1 Y1_takesLevel.1 ∈ gj_tb := ⟨(gj_at 356 (by decide +kernel) rfl), (gj_at 2 (by decide +kernel) rfl)⟩
theorem iv_1_takesWidth : Cond.instanceMethod Y1_takesWidth.1 ∈ gj_tb ∧ Cond.selects Y1_takesWidth.1.cls Y1_takesWidth.1 Y1_takesWidth.1 ∈ gj_tb := ⟨(gj_at 364 (by decide +kernel) rfl), (gj_at 3 (by decide +kernel) rfl)⟩
theorem iv_1_takesItemOrEnd : Cond.instanceMethod Y1_takesItemOrEnd.1 ∈ gj_tb ∧ Cond.selects Y1_takesItemOrEnd.1.cls Y1_takesItemOrEnd.1 Y1_takesItemOrEnd.1 ∈ gj_tb := ⟨(gj_at 372 (by decide +kernel) rfl), (gj_at 4 (by decide +kernel) rfl)⟩
theorem iv_1_takesItem : Cond.instanceMethod Y1_takesItem.1 ∈ gj_tb ∧ Cond.selects Y1_takesItem.1.cls Y1_takesItem.1 Y1_takesItem.1 ∈ gj_tb := ⟨(gj_at 376 (by decide +kernel) rfl), (gj_at 5 (by decide +kernel) rfl)⟩
theorem iv_1_takesHold : Cond.instanceMethod Y1_takesHold.1 ∈ gj_tb ∧ Cond.selects Y1_takesHold.1.cls Y1_takesHold.1 Y1_takesHold.1 ∈ gj_tb := ⟨(gj_at 388 (by decide +kernel) rfl), (gj_at 7 (by decide +kernel) rfl)⟩
theorem iv_1_takesTimes : Cond.instanceMethod Y1_takesTimes.1 ∈ gj_tb ∧ Cond.selects Y1_takesTimes.1.cls Y1_takesTimes.1 Y1_takesTimes.1 ∈ gj_tb := ⟨(gj_at 400 (by decide +kernel) rfl), (gj_at 9 (by decide +kernel) rfl)⟩
theorem iv_2_addDrawing : Cond.instanceMethod Y2_addDrawing.1 ∈ gj_tb ∧ Cond.selects Y2_addDrawing.1.cls Y2_addDrawing.1 Y2_addDrawing.1 ∈ gj_tb := ⟨(gj_at 367 (by decide +kernel) rfl), (gj_at 368 (by decide +kernel) rfl)⟩
theorem iv_2_addLevel : Cond.instanceMethod Y2_addLevel.1 ∈ gj_tb ∧ Cond.selects Y2_addLevel.1.cls Y2_addLevel.1 Y2_addLevel.1 ∈ gj_tb := ⟨(gj_at 359 (by decide +kernel) rfl), (gj_at 360 (by decide +kernel) rfl)⟩
theorem iv_1_takesOpening : Cond.instanceMethod Y1_takesOpening.1 ∈ gj_tb ∧ Cond.selects Y1_takesOpening.1.cls Y1_takesOpening.1 Y1_takesOpening.1 ∈ gj_tb := ⟨(gj_at 380 (by decide +kernel) rfl), (gj_at 6 (by decide +kernel) rfl)⟩
theorem iv_2_lastLong : Cond.instanceMethod Y2_lastLong.1 ∈ gj_tb ∧ Cond.selects Y2_lastLong.1.cls Y2_lastLong.1 Y2_lastLong.1 ∈ gj_tb := ⟨(gj_at 383 (by decide +kernel) rfl), (gj_at 384 (by decide +kernel) rfl)⟩
theorem iv_2_hold : Cond.instanceMethod Y2_hold.1 ∈ gj_tb ∧ Cond.selects Y2_hold.1.cls Y2_hold.1 Y2_hold.1 ∈ gj_tb := ⟨(gj_at 391 (by decide +kernel) rfl), (gj_at 392 (by decide +kernel) rfl)⟩
theorem iv_2_repeatFrom : Cond.instanceMethod Y2_repeatFrom.1 ∈ gj_tb ∧ Cond.selects Y2_repeatFrom.1.cls Y2_repeatFrom.1 Y2_repeatFrom.1 ∈ gj_tb := ⟨(gj_at 403 (by decide +kernel) rfl), (gj_at 404 (by decide +kernel) rfl)⟩
theorem iv_2_append : Cond.instanceMethod Y2_append.1 ∈ gj_tb ∧ Cond.selects Y2_append.1.cls Y2_append.1 Y2_append.1 ∈ gj_tb := ⟨(gj_at 396 (by decide +kernel) rfl), (gj_at 8 (by decide +kernel) rfl)⟩
theorem ii_4_init : Cond.instanceMethod Y4_init.1 ∈ gj_tb := (gj_at 150 (by decide +kernel) rfl)
theorem ii_5_init : Cond.instanceMethod Y5_init.1 ∈ gj_tb := (gj_at 200 (by decide +kernel) rfl)
theorem iv_3_levelInOrder : Cond.instanceMethod Y3_levelInOrder.1 ∈ gj_tb ∧ Cond.selects Y3_levelInOrder.1.cls Y3_levelInOrder.1 Y3_levelInOrder.1 ∈ gj_tb := ⟨(gj_at 564 (by decide +kernel) rfl), (gj_at 565 (by decide +kernel) rfl)⟩
theorem iv_4_switchFor : Cond.instanceMethod Y4_switchFor.1 ∈ gj_tb ∧ Cond.selects Y4_switchFor.1.cls Y4_switchFor.1 Y4_switchFor.1 ∈ gj_tb := ⟨(gj_at 604 (by decide +kernel) rfl), (gj_at 605 (by decide +kernel) rfl)⟩
theorem iv_4_panAt : Cond.instanceMethod Y4_panAt.1 ∈ gj_tb ∧ Cond.selects Y4_panAt.1.cls Y4_panAt.1 Y4_panAt.1 ∈ gj_tb := ⟨(gj_at 528 (by decide +kernel) rfl), (gj_at 529 (by decide +kernel) rfl)⟩
theorem iv_3_drawingOn : Cond.instanceMethod Y3_drawingOn.1 ∈ gj_tb ∧ Cond.selects Y3_drawingOn.1.cls Y3_drawingOn.1 Y3_drawingOn.1 ∈ gj_tb := ⟨(gj_at 455 (by decide +kernel) rfl), (gj_at 456 (by decide +kernel) rfl)⟩
theorem iv_3_covers : Cond.instanceMethod Y3_covers.1 ∈ gj_tb ∧ Cond.selects Y3_covers.1.cls Y3_covers.1 Y3_covers.1 ∈ gj_tb := ⟨(gj_at 621 (by decide +kernel) rfl), (gj_at 21 (by decide +kernel) rfl)⟩
theorem iv_3_orderAt : Cond.instanceMethod Y3_orderAt.1 ∈ gj_tb ∧ Cond.selects Y3_orderAt.1.cls Y3_orderAt.1 Y3_orderAt.1 ∈ gj_tb := ⟨(gj_at 600 (by decide +kernel) rfl), (gj_at 601 (by decide +kernel) rfl)⟩
theorem iv_3_levelCovers : Cond.instanceMethod Y3_levelCovers.1 ∈ gj_tb ∧ Cond.selects Y3_levelCovers.1.cls Y3_levelCovers.1 Y3_levelCovers.1 ∈ gj_tb := ⟨(gj_at 699 (by decide +kernel) rfl), (gj_at 27 (by decide +kernel) rfl)⟩
theorem iv_3_viewBecomes : Cond.instanceMethod Y3_viewBecomes.1 ∈ gj_tb ∧ Cond.selects Y3_viewBecomes.1.cls Y3_viewBecomes.1 Y3_viewBecomes.1 ∈ gj_tb := ⟨(gj_at 634 (by decide +kernel) rfl), (gj_at 22 (by decide +kernel) rfl)⟩
theorem iv_3_seenAt : Cond.instanceMethod Y3_seenAt.1 ∈ gj_tb ∧ Cond.selects Y3_seenAt.1.cls Y3_seenAt.1 Y3_seenAt.1 ∈ gj_tb := ⟨(gj_at 615 (by decide +kernel) rfl), (gj_at 616 (by decide +kernel) rfl)⟩
theorem iv_3_findMost : Cond.instanceMethod Y3_findMost.1 ∈ gj_tb ∧ Cond.selects Y3_findMost.1.cls Y3_findMost.1 Y3_findMost.1 ∈ gj_tb := ⟨(gj_at 449 (by decide +kernel) rfl), (gj_at 11 (by decide +kernel) rfl)⟩
theorem is_3_clearDrawings : Cond.static Y3_clearDrawings.1 ∈ gj_tb := (gj_at 452 (by decide +kernel) rfl)
theorem iv_3_countDrawing : Cond.instanceMethod Y3_countDrawing.1 ∈ gj_tb ∧ Cond.selects Y3_countDrawing.1.cls Y3_countDrawing.1 Y3_countDrawing.1 ∈ gj_tb := ⟨(gj_at 460 (by decide +kernel) rfl), (gj_at 12 (by decide +kernel) rfl)⟩
theorem iv_5_lettersFor : Cond.instanceMethod Y5_lettersFor.1 ∈ gj_tb ∧ Cond.selects Y5_lettersFor.1.cls Y5_lettersFor.1 Y5_lettersFor.1 ∈ gj_tb := ⟨(gj_at 478 (by decide +kernel) rfl), (gj_at 479 (by decide +kernel) rfl)⟩
theorem iv_3_cels : Cond.instanceMethod Y3_cels.1 ∈ gj_tb ∧ Cond.selects Y3_cels.1.cls Y3_cels.1 Y3_cels.1 ∈ gj_tb := ⟨(gj_at 510 (by decide +kernel) rfl), (gj_at 511 (by decide +kernel) rfl)⟩
theorem iv_3_levelsCovering : Cond.instanceMethod Y3_levelsCovering.1 ∈ gj_tb ∧ Cond.selects Y3_levelsCovering.1.cls Y3_levelsCovering.1 Y3_levelsCovering.1 ∈ gj_tb := ⟨(gj_at 702 (by decide +kernel) rfl), (gj_at 703 (by decide +kernel) rfl)⟩
theorem iv_5_findLike : Cond.instanceMethod Y5_findLike.1 ∈ gj_tb ∧ Cond.selects Y5_findLike.1.cls Y5_findLike.1 Y5_findLike.1 ∈ gj_tb := ⟨(gj_at 487 (by decide +kernel) rfl), (gj_at 14 (by decide +kernel) rfl)⟩
theorem iv_5_findPlain : Cond.instanceMethod Y5_findPlain.1 ∈ gj_tb ∧ Cond.selects Y5_findPlain.1.cls Y5_findPlain.1 Y5_findPlain.1 ∈ gj_tb := ⟨(gj_at 491 (by decide +kernel) rfl), (gj_at 15 (by decide +kernel) rfl)⟩
theorem iv_5_findItems : Cond.instanceMethod Y5_findItems.1 ∈ gj_tb ∧ Cond.selects Y5_findItems.1.cls Y5_findItems.1 Y5_findItems.1 ∈ gj_tb := ⟨(gj_at 495 (by decide +kernel) rfl), (gj_at 16 (by decide +kernel) rfl)⟩
theorem iv_5_findOnce : Cond.instanceMethod Y5_findOnce.1 ∈ gj_tb ∧ Cond.selects Y5_findOnce.1.cls Y5_findOnce.1 Y5_findOnce.1 ∈ gj_tb := ⟨(gj_at 499 (by decide +kernel) rfl), (gj_at 17 (by decide +kernel) rfl)⟩
theorem iv_5_findTwice : Cond.instanceMethod Y5_findTwice.1 ∈ gj_tb ∧ Cond.selects Y5_findTwice.1.cls Y5_findTwice.1 Y5_findTwice.1 ∈ gj_tb := ⟨(gj_at 503 (by decide +kernel) rfl), (gj_at 18 (by decide +kernel) rfl)⟩
theorem ii_1_init : Cond.instanceMethod Y1_init.1 ∈ gj_tb := (gj_at 77 (by decide +kernel) rfl)
theorem ii_3_init : Cond.instanceMethod Y3_init.1 ∈ gj_tb := (gj_at 142 (by decide +kernel) rfl)
theorem ii_0_init : Cond.instanceMethod Y0_init.1 ∈ gj_tb := (gj_at 252 (by decide +kernel) rfl)
theorem ii_6_init : Cond.instanceMethod Y6_init.1 ∈ gj_tb := (gj_at 266 (by decide +kernel) rfl)
theorem iv_1_firstFault : Cond.instanceMethod Y1_firstFault.1 ∈ gj_tb ∧ Cond.selects Y1_firstFault.1.cls Y1_firstFault.1 Y1_firstFault.1 ∈ gj_tb := ⟨(gj_at 339 (by decide +kernel) rfl), (gj_at 340 (by decide +kernel) rfl)⟩
theorem iv_2_copyFrom : Cond.instanceMethod Y2_copyFrom.1 ∈ gj_tb ∧ Cond.selects Y2_copyFrom.1.cls Y2_copyFrom.1 Y2_copyFrom.1 ∈ gj_tb := ⟨(gj_at 412 (by decide +kernel) rfl), (gj_at 413 (by decide +kernel) rfl)⟩
theorem iv_4_beginWith : Cond.instanceMethod Y4_beginWith.1 ∈ gj_tb ∧ Cond.selects Y4_beginWith.1.cls Y4_beginWith.1 Y4_beginWith.1 ∈ gj_tb := ⟨(gj_at 419 (by decide +kernel) rfl), (gj_at 420 (by decide +kernel) rfl)⟩
theorem iv_3_forgetShorts : Cond.instanceMethod Y3_forgetShorts.1 ∈ gj_tb ∧ Cond.selects Y3_forgetShorts.1.cls Y3_forgetShorts.1 Y3_forgetShorts.1 ∈ gj_tb := ⟨(gj_at 428 (by decide +kernel) rfl), (gj_at 429 (by decide +kernel) rfl)⟩
theorem iv_0_clear : Cond.instanceMethod Y0_clear.1 ∈ gj_tb ∧ Cond.selects Y0_clear.1.cls Y0_clear.1 Y0_clear.1 ∈ gj_tb := ⟨(gj_at 432 (by decide +kernel) rfl), (gj_at 433 (by decide +kernel) rfl)⟩
theorem iv_7_isDrawing : Cond.instanceMethod Y7_isDrawing.1 ∈ gj_tb ∧ Cond.selects Y7_isDrawing.1.cls Y7_isDrawing.1 Y7_isDrawing.1 ∈ gj_tb := ⟨(gj_at 441 (by decide +kernel) rfl), (gj_at 10 (by decide +kernel) rfl)⟩
theorem iv_3_mostLevelsOf : Cond.instanceMethod Y3_mostLevelsOf.1 ∈ gj_tb ∧ Cond.selects Y3_mostLevelsOf.1.cls Y3_mostLevelsOf.1 Y3_mostLevelsOf.1 ∈ gj_tb := ⟨(gj_at 444 (by decide +kernel) rfl), (gj_at 445 (by decide +kernel) rfl)⟩
theorem iv_7_isLevel : Cond.instanceMethod Y7_isLevel.1 ∈ gj_tb ∧ Cond.selects Y7_isLevel.1.cls Y7_isLevel.1 Y7_isLevel.1 ∈ gj_tb := ⟨(gj_at 471 (by decide +kernel) rfl), (gj_at 13 (by decide +kernel) rfl)⟩
theorem iv_3_shortOf : Cond.instanceMethod Y3_shortOf.1 ∈ gj_tb ∧ Cond.selects Y3_shortOf.1.cls Y3_shortOf.1 Y3_shortOf.1 ∈ gj_tb := ⟨(gj_at 474 (by decide +kernel) rfl), (gj_at 475 (by decide +kernel) rfl)⟩
theorem iv_3_bestOf : Cond.instanceMethod Y3_bestOf.1 ∈ gj_tb ∧ Cond.selects Y3_bestOf.1.cls Y3_bestOf.1 Y3_bestOf.1 ∈ gj_tb := ⟨(gj_at 506 (by decide +kernel) rfl), (gj_at 507 (by decide +kernel) rfl)⟩
theorem iv_7_hasPan : Cond.instanceMethod Y7_hasPan.1 ∈ gj_tb ∧ Cond.selects Y7_hasPan.1.cls Y7_hasPan.1 Y7_hasPan.1 ∈ gj_tb := ⟨(gj_at 519 (by decide +kernel) rfl), (gj_at 19 (by decide +kernel) rfl)⟩
theorem is_7_isFrame : Cond.static Y7_isFrame.1 ∈ gj_tb := (gj_at 522 (by decide +kernel) rfl)
theorem is_7_panOf : Cond.static Y7_panOf.1 ∈ gj_tb := (gj_at 525 (by decide +kernel) rfl)
theorem iv_0_add : Cond.instanceMethod Y0_add.1 ∈ gj_tb ∧ Cond.selects Y0_add.1.cls Y0_add.1 Y0_add.1 ∈ gj_tb := ⟨(gj_at 536 (by decide +kernel) rfl), (gj_at 537 (by decide +kernel) rfl)⟩
theorem iv_3_isOrder : Cond.instanceMethod Y3_isOrder.1 ∈ gj_tb ∧ Cond.selects Y3_isOrder.1.cls Y3_isOrder.1 Y3_isOrder.1 ∈ gj_tb := ⟨(gj_at 558 (by decide +kernel) rfl), (gj_at 559 (by decide +kernel) rfl)⟩
theorem iv_0_takeBackLast : Cond.instanceMethod Y0_takeBackLast.1 ∈ gj_tb ∧ Cond.selects Y0_takeBackLast.1.cls Y0_takeBackLast.1 Y0_takeBackLast.1 ∈ gj_tb := ⟨(gj_at 584 (by decide +kernel) rfl), (gj_at 585 (by decide +kernel) rfl)⟩
theorem is_7_isWindow : Cond.static Y7_isWindow.1 ∈ gj_tb := (gj_at 612 (by decide +kernel) rfl)
theorem iv_3_changes : Cond.instanceMethod Y3_changes.1 ∈ gj_tb ∧ Cond.selects Y3_changes.1.cls Y3_changes.1 Y3_changes.1 ∈ gj_tb := ⟨(gj_at 629 (by decide +kernel) rfl), (gj_at 630 (by decide +kernel) rfl)⟩
theorem iv_4_copyFrom : Cond.instanceMethod Y4_copyFrom.1 ∈ gj_tb ∧ Cond.selects Y4_copyFrom.1.cls Y4_copyFrom.1 Y4_copyFrom.1 ∈ gj_tb := ⟨(gj_at 644 (by decide +kernel) rfl), (gj_at 645 (by decide +kernel) rfl)⟩
theorem iv_7_firstThatCanNotBe : Cond.instanceMethod Y7_firstThatCanNotBe.1 ∈ gj_tb ∧ Cond.selects Y7_firstThatCanNotBe.1.cls Y7_firstThatCanNotBe.1 Y7_firstThatCanNotBe.1 ∈ gj_tb := ⟨(gj_at 649 (by decide +kernel) rfl), (gj_at 23 (by decide +kernel) rfl)⟩
theorem iv_6_add : Cond.instanceMethod Y6_add.1 ∈ gj_tb ∧ Cond.selects Y6_add.1.cls Y6_add.1 Y6_add.1 ∈ gj_tb := ⟨(gj_at 669 (by decide +kernel) rfl), (gj_at 670 (by decide +kernel) rfl)⟩
theorem iv_6_clear : Cond.instanceMethod Y6_clear.1 ∈ gj_tb ∧ Cond.selects Y6_clear.1.cls Y6_clear.1 Y6_clear.1 ∈ gj_tb := ⟨(gj_at 677 (by decide +kernel) rfl), (gj_at 678 (by decide +kernel) rfl)⟩
theorem iv_6_allSoWithout : Cond.instanceMethod Y6_allSoWithout.1 ∈ gj_tb ∧ Cond.selects Y6_allSoWithout.1.cls Y6_allSoWithout.1 Y6_allSoWithout.1 ∈ gj_tb := ⟨(gj_at 685 (by decide +kernel) rfl), (gj_at 686 (by decide +kernel) rfl)⟩
theorem iv_3_shareInTwelfths : Cond.instanceMethod Y3_shareInTwelfths.1 ∈ gj_tb ∧ Cond.selects Y3_shareInTwelfths.1.cls Y3_shareInTwelfths.1 Y3_shareInTwelfths.1 ∈ gj_tb := ⟨(gj_at 694 (by decide +kernel) rfl), (gj_at 695 (by decide +kernel) rfl)⟩
theorem is_7_fractionPart : Cond.static Y7_fractionPart.1 ∈ gj_tb := (gj_at 706 (by decide +kernel) rfl)
theorem iv_7_keptIn : Cond.instanceMethod Y7_keptIn.1 ∈ gj_tb ∧ Cond.selects Y7_keptIn.1.cls Y7_keptIn.1 Y7_keptIn.1 ∈ gj_tb := ⟨(gj_at 732 (by decide +kernel) rfl), (gj_at 28 (by decide +kernel) rfl)⟩
theorem iv_7_comesTrue : Cond.instanceMethod Y7_comesTrue.1 ∈ gj_tb ∧ Cond.selects Y7_comesTrue.1.cls Y7_comesTrue.1 Y7_comesTrue.1 ∈ gj_tb := ⟨(gj_at 653 (by decide +kernel) rfl), (gj_at 24 (by decide +kernel) rfl)⟩
theorem iv_7_delayForNow : Cond.instanceMethod Y7_delayForNow.1 ∈ gj_tb ∧ Cond.selects Y7_delayForNow.1.cls Y7_delayForNow.1 Y7_delayForNow.1 ∈ gj_tb := ⟨(gj_at 657 (by decide +kernel) rfl), (gj_at 25 (by decide +kernel) rfl)⟩
theorem iv_7_redrawForNow : Cond.instanceMethod Y7_redrawForNow.1 ∈ gj_tb ∧ Cond.selects Y7_redrawForNow.1.cls Y7_redrawForNow.1 Y7_redrawForNow.1 ∈ gj_tb := ⟨(gj_at 661 (by decide +kernel) rfl), (gj_at 26 (by decide +kernel) rfl)⟩
theorem is_7_commonDivisor : Cond.static Y7_commonDivisor.1 ∈ gj_tb := (gj_at 709 (by decide +kernel) rfl)
theorem is_8_fresh : Cond.static Y8_fresh.1 ∈ gj_tb := (gj_at 749 (by decide +kernel) rfl)
theorem is_8_in : Cond.static Y8_in.1 ∈ gj_tb := (gj_at 842 (by decide +kernel) rfl)
theorem iv_8_figure : Cond.instanceMethod Y8_figure.1 ∈ gj_tb ∧ Cond.selects Y8_figure.1.cls Y8_figure.1 Y8_figure.1 ∈ gj_tb := ⟨(gj_at 862 (by decide +kernel) rfl), (gj_at 31 (by decide +kernel) rfl)⟩
theorem iv_8_spread : Cond.instanceMethod Y8_spread.1 ∈ gj_tb ∧ Cond.selects Y8_spread.1.cls Y8_spread.1 Y8_spread.1 ∈ gj_tb := ⟨(gj_at 874 (by decide +kernel) rfl), (gj_at 34 (by decide +kernel) rfl)⟩
theorem iv_8_over : Cond.instanceMethod Y8_over.1 ∈ gj_tb ∧ Cond.selects Y8_over.1.cls Y8_over.1 Y8_over.1 ∈ gj_tb := ⟨(gj_at 870 (by decide +kernel) rfl), (gj_at 33 (by decide +kernel) rfl)⟩
theorem iv_8_readDrawing : Cond.instanceMethod Y8_readDrawing.1 ∈ gj_tb ∧ Cond.selects Y8_readDrawing.1.cls Y8_readDrawing.1 Y8_readDrawing.1 ∈ gj_tb := ⟨(gj_at 858 (by decide +kernel) rfl), (gj_at 30 (by decide +kernel) rfl)⟩
theorem iv_8_readSheet : Cond.instanceMethod Y8_readSheet.1 ∈ gj_tb ∧ Cond.selects Y8_readSheet.1.cls Y8_readSheet.1 Y8_readSheet.1 ∈ gj_tb := ⟨(gj_at 866 (by decide +kernel) rfl), (gj_at 32 (by decide +kernel) rfl)⟩
theorem iv_8_readReel : Cond.instanceMethod Y8_readReel.1 ∈ gj_tb ∧ Cond.selects Y8_readReel.1.cls Y8_readReel.1 Y8_readReel.1 ∈ gj_tb := ⟨(gj_at 854 (by decide +kernel) rfl), (gj_at 29 (by decide +kernel) rfl)⟩
theorem iv_8_firstOrder : Cond.instanceMethod Y8_firstOrder.1 ∈ gj_tb ∧ Cond.selects Y8_firstOrder.1.cls Y8_firstOrder.1 Y8_firstOrder.1 ∈ gj_tb := ⟨(gj_at 997 (by decide +kernel) rfl), (gj_at 49 (by decide +kernel) rfl)⟩
theorem iv_8_orderAt : Cond.instanceMethod Y8_orderAt.1 ∈ gj_tb ∧ Cond.selects Y8_orderAt.1.cls Y8_orderAt.1 Y8_orderAt.1 ∈ gj_tb := ⟨(gj_at 993 (by decide +kernel) rfl), (gj_at 48 (by decide +kernel) rfl)⟩
theorem is_8_whereIs : Cond.static Y8_whereIs.1 ∈ gj_tb := (gj_at 937 (by decide +kernel) rfl)
theorem is_8_power : Cond.static Y8_power.1 ∈ gj_tb := (gj_at 969 (by decide +kernel) rfl)
theorem iv_8_exposedOn : Cond.instanceMethod Y8_exposedOn.1 ∈ gj_tb ∧ Cond.selects Y8_exposedOn.1.cls Y8_exposedOn.1 Y8_exposedOn.1 ∈ gj_tb := ⟨(gj_at 894 (by decide +kernel) rfl), (gj_at 37 (by decide +kernel) rfl)⟩
theorem is_8_has : Cond.static Y8_has.1 ∈ gj_tb := (gj_at 1008 (by decide +kernel) rfl)
theorem iv_8_mostOf : Cond.instanceMethod Y8_mostOf.1 ∈ gj_tb ∧ Cond.selects Y8_mostOf.1.cls Y8_mostOf.1 Y8_mostOf.1 ∈ gj_tb := ⟨(gj_at 890 (by decide +kernel) rfl), (gj_at 36 (by decide +kernel) rfl)⟩
theorem iv_8_every : Cond.instanceMethod Y8_every.1 ∈ gj_tb ∧ Cond.selects Y8_every.1.cls Y8_every.1 Y8_every.1 ∈ gj_tb := ⟨(gj_at 973 (by decide +kernel) rfl), (gj_at 47 (by decide +kernel) rfl)⟩
theorem iv_8_lookBy : Cond.instanceMethod Y8_lookBy.1 ∈ gj_tb ∧ Cond.selects Y8_lookBy.1.cls Y8_lookBy.1 Y8_lookBy.1 ∈ gj_tb := ⟨(gj_at 1005 (by decide +kernel) rfl), (gj_at 50 (by decide +kernel) rfl)⟩
theorem iv_8_layLike : Cond.instanceMethod Y8_layLike.1 ∈ gj_tb ∧ Cond.selects Y8_layLike.1.cls Y8_layLike.1 Y8_layLike.1 ∈ gj_tb := ⟨(gj_at 910 (by decide +kernel) rfl), (gj_at 40 (by decide +kernel) rfl)⟩
theorem iv_8_itemOf : Cond.instanceMethod Y8_itemOf.1 ∈ gj_tb ∧ Cond.selects Y8_itemOf.1.cls Y8_itemOf.1 Y8_itemOf.1 ∈ gj_tb := ⟨(gj_at 914 (by decide +kernel) rfl), (gj_at 41 (by decide +kernel) rfl)⟩
theorem iv_8_layTrial : Cond.instanceMethod Y8_layTrial.1 ∈ gj_tb ∧ Cond.selects Y8_layTrial.1.cls Y8_layTrial.1 Y8_layTrial.1 ∈ gj_tb := ⟨(gj_at 922 (by decide +kernel) rfl), (gj_at 43 (by decide +kernel) rfl)⟩
theorem iv_8_cels : Cond.instanceMethod Y8_cels.1 ∈ gj_tb ∧ Cond.selects Y8_cels.1.cls Y8_cels.1 Y8_cels.1 ∈ gj_tb := ⟨(gj_at 926 (by decide +kernel) rfl), (gj_at 44 (by decide +kernel) rfl)⟩
theorem iv_8_noDrawing : Cond.instanceMethod Y8_noDrawing.1 ∈ gj_tb ∧ Cond.selects Y8_noDrawing.1.cls Y8_noDrawing.1 Y8_noDrawing.1 ∈ gj_tb := ⟨(gj_at 886 (by decide +kernel) rfl), (gj_at 35 (by decide +kernel) rfl)⟩
theorem iv_8_noLevel : Cond.instanceMethod Y8_noLevel.1 ∈ gj_tb ∧ Cond.selects Y8_noLevel.1.cls Y8_noLevel.1 Y8_noLevel.1 ∈ gj_tb := ⟨(gj_at 902 (by decide +kernel) rfl), (gj_at 38 (by decide +kernel) rfl)⟩
theorem iv_8_shortest : Cond.instanceMethod Y8_shortest.1 ∈ gj_tb ∧ Cond.selects Y8_shortest.1.cls Y8_shortest.1 Y8_shortest.1 ∈ gj_tb := ⟨(gj_at 906 (by decide +kernel) rfl), (gj_at 39 (by decide +kernel) rfl)⟩
theorem iv_8_bestDelay : Cond.instanceMethod Y8_bestDelay.1 ∈ gj_tb ∧ Cond.selects Y8_bestDelay.1.cls Y8_bestDelay.1 Y8_bestDelay.1 ∈ gj_tb := ⟨(gj_at 918 (by decide +kernel) rfl), (gj_at 42 (by decide +kernel) rfl)⟩
theorem is_8_isFrame : Cond.static Y8_isFrame.1 ∈ gj_tb := (gj_at 933 (by decide +kernel) rfl)
theorem iv_8_note : Cond.instanceMethod Y8_note.1 ∈ gj_tb ∧ Cond.selects Y8_note.1.cls Y8_note.1 Y8_note.1 ∈ gj_tb := ⟨(gj_at 947 (by decide +kernel) rfl), (gj_at 45 (by decide +kernel) rfl)⟩
theorem iv_8_isOrder : Cond.instanceMethod Y8_isOrder.1 ∈ gj_tb ∧ Cond.selects Y8_isOrder.1.cls Y8_isOrder.1 Y8_isOrder.1 ∈ gj_tb := ⟨(gj_at 966 (by decide +kernel) rfl), (gj_at 46 (by decide +kernel) rfl)⟩
theorem iv_8_changes : Cond.instanceMethod Y8_changes.1 ∈ gj_tb ∧ Cond.selects Y8_changes.1.cls Y8_changes.1 Y8_changes.1 ∈ gj_tb := ⟨(gj_at 1016 (by decide +kernel) rfl), (gj_at 51 (by decide +kernel) rfl)⟩
theorem is_8_longPower : Cond.static Y8_longPower.1 ∈ gj_tb := (gj_at 1025 (by decide +kernel) rfl)
theorem iv_8_does : Cond.instanceMethod Y8_does.1 ∈ gj_tb ∧ Cond.selects Y8_does.1.cls Y8_does.1 Y8_does.1 ∈ gj_tb := ⟨(gj_at 1029 (by decide +kernel) rfl), (gj_at 52 (by decide +kernel) rfl)⟩
theorem is_8_divisor : Cond.static Y8_divisor.1 ∈ gj_tb := (gj_at 1062 (by decide +kernel) rfl)
theorem is_8_ones : Cond.static Y8_ones.1 ∈ gj_tb := (gj_at 1049 (by decide +kernel) rfl)
theorem is_8_factorial : Cond.static Y8_factorial.1 ∈ gj_tb := (gj_at 1052 (by decide +kernel) rfl)
theorem iv_8_coveredBy : Cond.instanceMethod Y8_coveredBy.1 ∈ gj_tb ∧ Cond.selects Y8_coveredBy.1.cls Y8_coveredBy.1 Y8_coveredBy.1 ∈ gj_tb := ⟨(gj_at 1056 (by decide +kernel) rfl), (gj_at 53 (by decide +kernel) rfl)⟩
theorem is_8_fraction : Cond.static Y8_fraction.1 ∈ gj_tb := (gj_at 1059 (by decide +kernel) rfl)
theorem ii_7_init : Cond.instanceMethod Y7_init.1 ∈ gj_tb := (gj_at 69 (by decide +kernel) rfl)
theorem ii_8_init : Cond.instanceMethod Y8_init.1 ∈ gj_tb := (gj_at 745 (by decide +kernel) rfl)
theorem iv_7_write : Cond.instanceMethod Y7_write.1 ∈ gj_tb ∧ Cond.selects Y7_write.1.cls Y7_write.1 Y7_write.1 ∈ gj_tb := ⟨(gj_at 327 (by decide +kernel) rfl), (gj_at 328 (by decide +kernel) rfl)⟩
theorem iv_8_write : Cond.instanceMethod Y8_write.1 ∈ gj_tb ∧ Cond.selects Y8_write.1.cls Y8_write.1 Y8_write.1 ∈ gj_tb := ⟨(gj_at 837 (by decide +kernel) rfl), (gj_at 838 (by decide +kernel) rfl)⟩
theorem iv_7_wipe : Cond.instanceMethod Y7_wipe.1 ∈ gj_tb ∧ Cond.selects Y7_wipe.1.cls Y7_wipe.1 Y7_wipe.1 ∈ gj_tb := ⟨(gj_at 331 (by decide +kernel) rfl), (gj_at 332 (by decide +kernel) rfl)⟩
theorem iv_8_wipe : Cond.instanceMethod Y8_wipe.1 ∈ gj_tb ∧ Cond.selects Y8_wipe.1.cls Y8_wipe.1 Y8_wipe.1 ∈ gj_tb := ⟨(gj_at 845 (by decide +kernel) rfl), (gj_at 846 (by decide +kernel) rfl)⟩
theorem iv_7_fault : Cond.instanceMethod Y7_fault.1 ∈ gj_tb ∧ Cond.selects Y7_fault.1.cls Y7_fault.1 Y7_fault.1 ∈ gj_tb := ⟨(gj_at 335 (by decide +kernel) rfl), (gj_at 336 (by decide +kernel) rfl)⟩
theorem iv_8_fault : Cond.instanceMethod Y8_fault.1 ∈ gj_tb ∧ Cond.selects Y8_fault.1.cls Y8_fault.1 Y8_fault.1 ∈ gj_tb := ⟨(gj_at 849 (by decide +kernel) rfl), (gj_at 850 (by decide +kernel) rfl)⟩
theorem iv_7_reel : Cond.instanceMethod Y7_reel.1 ∈ gj_tb ∧ Cond.selects Y7_reel.1.cls Y7_reel.1 Y7_reel.1 ∈ gj_tb := ⟨(gj_at 408 (by decide +kernel) rfl), (gj_at 409 (by decide +kernel) rfl)⟩
theorem iv_8_reel : Cond.instanceMethod Y8_reel.1 ∈ gj_tb ∧ Cond.selects Y8_reel.1.cls Y8_reel.1 Y8_reel.1 ∈ gj_tb := ⟨(gj_at 877 (by decide +kernel) rfl), (gj_at 878 (by decide +kernel) rfl)⟩
theorem iv_7_drawing : Cond.instanceMethod Y7_drawing.1 ∈ gj_tb ∧ Cond.selects Y7_drawing.1.cls Y7_drawing.1 Y7_drawing.1 ∈ gj_tb := ⟨(gj_at 436 (by decide +kernel) rfl), (gj_at 437 (by decide +kernel) rfl)⟩
theorem iv_8_drawing : Cond.instanceMethod Y8_drawing.1 ∈ gj_tb ∧ Cond.selects Y8_drawing.1.cls Y8_drawing.1 Y8_drawing.1 ∈ gj_tb := ⟨(gj_at 881 (by decide +kernel) rfl), (gj_at 882 (by decide +kernel) rfl)⟩
theorem iv_7_level : Cond.instanceMethod Y7_level.1 ∈ gj_tb ∧ Cond.selects Y7_level.1.cls Y7_level.1 Y7_level.1 ∈ gj_tb := ⟨(gj_at 466 (by decide +kernel) rfl), (gj_at 467 (by decide +kernel) rfl)⟩
theorem iv_8_level : Cond.instanceMethod Y8_level.1 ∈ gj_tb ∧ Cond.selects Y8_level.1.cls Y8_level.1 Y8_level.1 ∈ gj_tb := ⟨(gj_at 897 (by decide +kernel) rfl), (gj_at 898 (by decide +kernel) rfl)⟩
theorem iv_7_where : Cond.instanceMethod Y7_where.1 ∈ gj_tb ∧ Cond.selects Y7_where.1.cls Y7_where.1 Y7_where.1 ∈ gj_tb := ⟨(gj_at 514 (by decide +kernel) rfl), (gj_at 515 (by decide +kernel) rfl)⟩
theorem iv_8_where : Cond.instanceMethod Y8_where.1 ∈ gj_tb ∧ Cond.selects Y8_where.1.cls Y8_where.1 Y8_where.1 ∈ gj_tb := ⟨(gj_at 929 (by decide +kernel) rfl), (gj_at 930 (by decide +kernel) rfl)⟩
theorem iv_7_redraw : Cond.instanceMethod Y7_redraw.1 ∈ gj_tb ∧ Cond.selects Y7_redraw.1.cls Y7_redraw.1 Y7_redraw.1 ∈ gj_tb := ⟨(gj_at 532 (by decide +kernel) rfl), (gj_at 533 (by decide +kernel) rfl)⟩
theorem iv_8_redraw : Cond.instanceMethod Y8_redraw.1 ∈ gj_tb ∧ Cond.selects Y8_redraw.1.cls Y8_redraw.1 Y8_redraw.1 ∈ gj_tb := ⟨(gj_at 940 (by decide +kernel) rfl), (gj_at 941 (by decide +kernel) rfl)⟩
theorem iv_7_delay : Cond.instanceMethod Y7_delay.1 ∈ gj_tb ∧ Cond.selects Y7_delay.1.cls Y7_delay.1 Y7_delay.1 ∈ gj_tb := ⟨(gj_at 545 (by decide +kernel) rfl), (gj_at 546 (by decide +kernel) rfl)⟩
theorem iv_8_delay : Cond.instanceMethod Y8_delay.1 ∈ gj_tb ∧ Cond.selects Y8_delay.1.cls Y8_delay.1 Y8_delay.1 ∈ gj_tb := ⟨(gj_at 950 (by decide +kernel) rfl), (gj_at 951 (by decide +kernel) rfl)⟩
theorem iv_7_pan : Cond.instanceMethod Y7_pan.1 ∈ gj_tb ∧ Cond.selects Y7_pan.1.cls Y7_pan.1 Y7_pan.1 ∈ gj_tb := ⟨(gj_at 549 (by decide +kernel) rfl), (gj_at 550 (by decide +kernel) rfl)⟩
theorem iv_8_pan : Cond.instanceMethod Y8_pan.1 ∈ gj_tb ∧ Cond.selects Y8_pan.1.cls Y8_pan.1 Y8_pan.1 ∈ gj_tb := ⟨(gj_at 954 (by decide +kernel) rfl), (gj_at 955 (by decide +kernel) rfl)⟩
theorem iv_7_swap : Cond.instanceMethod Y7_swap.1 ∈ gj_tb ∧ Cond.selects Y7_swap.1.cls Y7_swap.1 Y7_swap.1 ∈ gj_tb := ⟨(gj_at 554 (by decide +kernel) rfl), (gj_at 555 (by decide +kernel) rfl)⟩
theorem iv_8_swap : Cond.instanceMethod Y8_swap.1 ∈ gj_tb ∧ Cond.selects Y8_swap.1.cls Y8_swap.1 Y8_swap.1 ∈ gj_tb := ⟨(gj_at 961 (by decide +kernel) rfl), (gj_at 962 (by decide +kernel) rfl)⟩
theorem iv_7_back : Cond.instanceMethod Y7_back.1 ∈ gj_tb ∧ Cond.selects Y7_back.1.cls Y7_back.1 Y7_back.1 ∈ gj_tb := ⟨(gj_at 572 (by decide +kernel) rfl), (gj_at 573 (by decide +kernel) rfl)⟩
theorem iv_8_back : Cond.instanceMethod Y8_back.1 ∈ gj_tb ∧ Cond.selects Y8_back.1.cls Y8_back.1 Y8_back.1 ∈ gj_tb := ⟨(gj_at 976 (by decide +kernel) rfl), (gj_at 977 (by decide +kernel) rfl)⟩
theorem iv_7_undo : Cond.instanceMethod Y7_undo.1 ∈ gj_tb ∧ Cond.selects Y7_undo.1.cls Y7_undo.1 Y7_undo.1 ∈ gj_tb := ⟨(gj_at 580 (by decide +kernel) rfl), (gj_at 581 (by decide +kernel) rfl)⟩
theorem iv_8_undo : Cond.instanceMethod Y8_undo.1 ∈ gj_tb ∧ Cond.selects Y8_undo.1.cls Y8_undo.1 Y8_undo.1 ∈ gj_tb := ⟨(gj_at 980 (by decide +kernel) rfl), (gj_at 981 (by decide +kernel) rfl)⟩
theorem iv_7_exposed : Cond.instanceMethod Y7_exposed.1 ∈ gj_tb ∧ Cond.selects Y7_exposed.1.cls Y7_exposed.1 Y7_exposed.1 ∈ gj_tb := ⟨(gj_at 591 (by decide +kernel) rfl), (gj_at 592 (by decide +kernel) rfl)⟩
theorem iv_8_exposed : Cond.instanceMethod Y8_exposed.1 ∈ gj_tb ∧ Cond.selects Y8_exposed.1.cls Y8_exposed.1 Y8_exposed.1 ∈ gj_tb := ⟨(gj_at 984 (by decide +kernel) rfl), (gj_at 985 (by decide +kernel) rfl)⟩
theorem iv_7_order : Cond.instanceMethod Y7_order.1 ∈ gj_tb ∧ Cond.selects Y7_order.1.cls Y7_order.1 Y7_order.1 ∈ gj_tb := ⟨(gj_at 596 (by decide +kernel) rfl), (gj_at 597 (by decide +kernel) rfl)⟩
theorem iv_8_order : Cond.instanceMethod Y8_order.1 ∈ gj_tb ∧ Cond.selects Y8_order.1.cls Y8_order.1 Y8_order.1 ∈ gj_tb := ⟨(gj_at 988 (by decide +kernel) rfl), (gj_at 989 (by decide +kernel) rfl)⟩
theorem iv_7_look : Cond.instanceMethod Y7_look.1 ∈ gj_tb ∧ Cond.selects Y7_look.1.cls Y7_look.1 Y7_look.1 ∈ gj_tb := ⟨(gj_at 608 (by decide +kernel) rfl), (gj_at 609 (by decide +kernel) rfl)⟩
theorem iv_8_look : Cond.instanceMethod Y8_look.1 ∈ gj_tb ∧ Cond.selects Y8_look.1.cls Y8_look.1 Y8_look.1 ∈ gj_tb := ⟨(gj_at 1000 (by decide +kernel) rfl), (gj_at 1001 (by decide +kernel) rfl)⟩
theorem iv_7_ask : Cond.instanceMethod Y7_ask.1 ∈ gj_tb ∧ Cond.selects Y7_ask.1.cls Y7_ask.1 Y7_ask.1 ∈ gj_tb := ⟨(gj_at 625 (by decide +kernel) rfl), (gj_at 626 (by decide +kernel) rfl)⟩
theorem iv_8_ask : Cond.instanceMethod Y8_ask.1 ∈ gj_tb ∧ Cond.selects Y8_ask.1.cls Y8_ask.1 Y8_ask.1 ∈ gj_tb := ⟨(gj_at 1011 (by decide +kernel) rfl), (gj_at 1012 (by decide +kernel) rfl)⟩
theorem iv_7_judge : Cond.instanceMethod Y7_judge.1 ∈ gj_tb ∧ Cond.selects Y7_judge.1.cls Y7_judge.1 Y7_judge.1 ∈ gj_tb := ⟨(gj_at 639 (by decide +kernel) rfl), (gj_at 640 (by decide +kernel) rfl)⟩
theorem iv_8_judge : Cond.instanceMethod Y8_judge.1 ∈ gj_tb ∧ Cond.selects Y8_judge.1.cls Y8_judge.1 Y8_judge.1 ∈ gj_tb := ⟨(gj_at 1019 (by decide +kernel) rfl), (gj_at 1020 (by decide +kernel) rfl)⟩
theorem iv_7_see : Cond.instanceMethod Y7_see.1 ∈ gj_tb ∧ Cond.selects Y7_see.1.cls Y7_see.1 Y7_see.1 ∈ gj_tb := ⟨(gj_at 665 (by decide +kernel) rfl), (gj_at 666 (by decide +kernel) rfl)⟩
theorem iv_8_see : Cond.instanceMethod Y8_see.1 ∈ gj_tb ∧ Cond.selects Y8_see.1.cls Y8_see.1 Y8_see.1 ∈ gj_tb := ⟨(gj_at 1032 (by decide +kernel) rfl), (gj_at 1033 (by decide +kernel) rfl)⟩
theorem iv_7_unsee : Cond.instanceMethod Y7_unsee.1 ∈ gj_tb ∧ Cond.selects Y7_unsee.1.cls Y7_unsee.1 Y7_unsee.1 ∈ gj_tb := ⟨(gj_at 673 (by decide +kernel) rfl), (gj_at 674 (by decide +kernel) rfl)⟩
theorem iv_8_unsee : Cond.instanceMethod Y8_unsee.1 ∈ gj_tb ∧ Cond.selects Y8_unsee.1.cls Y8_unsee.1 Y8_unsee.1 ∈ gj_tb := ⟨(gj_at 1037 (by decide +kernel) rfl), (gj_at 1038 (by decide +kernel) rfl)⟩
theorem iv_7_which : Cond.instanceMethod Y7_which.1 ∈ gj_tb ∧ Cond.selects Y7_which.1.cls Y7_which.1 Y7_which.1 ∈ gj_tb := ⟨(gj_at 681 (by decide +kernel) rfl), (gj_at 682 (by decide +kernel) rfl)⟩
theorem iv_8_which : Cond.instanceMethod Y8_which.1 ∈ gj_tb ∧ Cond.selects Y8_which.1.cls Y8_which.1 Y8_which.1 ∈ gj_tb := ⟨(gj_at 1041 (by decide +kernel) rfl), (gj_at 1042 (by decide +kernel) rfl)⟩
theorem iv_7_share : Cond.instanceMethod Y7_share.1 ∈ gj_tb ∧ Cond.selects Y7_share.1.cls Y7_share.1 Y7_share.1 ∈ gj_tb := ⟨(gj_at 690 (by decide +kernel) rfl), (gj_at 691 (by decide +kernel) rfl)⟩
theorem iv_8_share : Cond.instanceMethod Y8_share.1 ∈ gj_tb ∧ Cond.selects Y8_share.1.cls Y8_share.1 Y8_share.1 ∈ gj_tb := ⟨(gj_at 1045 (by decide +kernel) rfl), (gj_at 1046 (by decide +kernel) rfl)⟩
theorem iv_7_lost : Cond.instanceMethod Y7_lost.1 ∈ gj_tb ∧ Cond.selects Y7_lost.1.cls Y7_lost.1 Y7_lost.1 ∈ gj_tb := ⟨(gj_at 712 (by decide +kernel) rfl), (gj_at 713 (by decide +kernel) rfl)⟩
theorem iv_8_lost : Cond.instanceMethod Y8_lost.1 ∈ gj_tb ∧ Cond.selects Y8_lost.1.cls Y8_lost.1 Y8_lost.1 ∈ gj_tb := ⟨(gj_at 1065 (by decide +kernel) rfl), (gj_at 1066 (by decide +kernel) rfl)⟩
theorem iv_7_seed : Cond.instanceMethod Y7_seed.1 ∈ gj_tb ∧ Cond.selects Y7_seed.1.cls Y7_seed.1 Y7_seed.1 ∈ gj_tb := ⟨(gj_at 717 (by decide +kernel) rfl), (gj_at 718 (by decide +kernel) rfl)⟩
theorem iv_8_seed : Cond.instanceMethod Y8_seed.1 ∈ gj_tb ∧ Cond.selects Y8_seed.1.cls Y8_seed.1 Y8_seed.1 ∈ gj_tb := ⟨(gj_at 1070 (by decide +kernel) rfl), (gj_at 1071 (by decide +kernel) rfl)⟩
theorem iv_7_looks : Cond.instanceMethod Y7_looks.1 ∈ gj_tb ∧ Cond.selects Y7_looks.1.cls Y7_looks.1 Y7_looks.1 ∈ gj_tb := ⟨(gj_at 721 (by decide +kernel) rfl), (gj_at 722 (by decide +kernel) rfl)⟩
theorem iv_8_looks : Cond.instanceMethod Y8_looks.1 ∈ gj_tb ∧ Cond.selects Y8_looks.1.cls Y8_looks.1 Y8_looks.1 ∈ gj_tb := ⟨(gj_at 1074 (by decide +kernel) rfl), (gj_at 1075 (by decide +kernel) rfl)⟩
theorem iv_7_keep : Cond.instanceMethod Y7_keep.1 ∈ gj_tb ∧ Cond.selects Y7_keep.1.cls Y7_keep.1 Y7_keep.1 ∈ gj_tb := ⟨(gj_at 727 (by decide +kernel) rfl), (gj_at 728 (by decide +kernel) rfl)⟩
theorem iv_8_keep : Cond.instanceMethod Y8_keep.1 ∈ gj_tb ∧ Cond.selects Y8_keep.1.cls Y8_keep.1 Y8_keep.1 ∈ gj_tb := ⟨(gj_at 1081 (by decide +kernel) rfl), (gj_at 1082 (by decide +kernel) rfl)⟩
theorem iv_7_again : Cond.instanceMethod Y7_again.1 ∈ gj_tb ∧ Cond.selects Y7_again.1.cls Y7_again.1 Y7_again.1 ∈ gj_tb := ⟨(gj_at 735 (by decide +kernel) rfl), (gj_at 736 (by decide +kernel) rfl)⟩
theorem iv_8_again : Cond.instanceMethod Y8_again.1 ∈ gj_tb ∧ Cond.selects Y8_again.1.cls Y8_again.1 Y8_again.1 ∈ gj_tb := ⟨(gj_at 1085 (by decide +kernel) rfl), (gj_at 1086 (by decide +kernel) rfl)⟩
theorem iv_7_count : Cond.instanceMethod Y7_count.1 ∈ gj_tb ∧ Cond.selects Y7_count.1.cls Y7_count.1 Y7_count.1 ∈ gj_tb := ⟨(gj_at 739 (by decide +kernel) rfl), (gj_at 740 (by decide +kernel) rfl)⟩
theorem iv_8_count : Cond.instanceMethod Y8_count.1 ∈ gj_tb ∧ Cond.selects Y8_count.1.cls Y8_count.1 Y8_count.1 ∈ gj_tb := ⟨(gj_at 1089 (by decide +kernel) rfl), (gj_at 1090 (by decide +kernel) rfl)⟩
theorem ml_7_1 : Cond.methodLink RX7 1 Lib.objectInit ∈ gj_tb := (gj_at 71 (by decide +kernel) rfl)
theorem ml_7_57 : Cond.methodLink RX7 57 Y4_init.1 ∈ gj_tb := (gj_at 284 (by decide +kernel) rfl)
theorem ml_7_75 : Cond.methodLink RX7 75 Y1_firstFault.1 ∈ gj_tb := (gj_at 338 (by decide +kernel) rfl)
theorem ml_7_82 : Cond.methodLink RX7 82 Y2_copyFrom.1 ∈ gj_tb := (gj_at 411 (by decide +kernel) rfl)
theorem ml_7_88 : Cond.methodLink RX7 88 Y4_beginWith.1 ∈ gj_tb := (gj_at 418 (by decide +kernel) rfl)
theorem ml_7_91 : Cond.methodLink RX7 91 Y3_forgetShorts.1 ∈ gj_tb := (gj_at 427 (by decide +kernel) rfl)
theorem ml_7_94 : Cond.methodLink RX7 94 Y0_clear.1 ∈ gj_tb := (gj_at 431 (by decide +kernel) rfl)
theorem ml_7_100 : Cond.methodLink RX7 100 Y7_isDrawing.1 ∈ gj_tb := (gj_at 439 (by decide +kernel) rfl)
theorem ml_7_110 : Cond.methodLink RX7 110 Y3_mostLevelsOf.1 ∈ gj_tb := (gj_at 443 (by decide +kernel) rfl)
theorem ml_7_114 : Cond.methodLink RX7 114 Y7_isLevel.1 ∈ gj_tb := (gj_at 469 (by decide +kernel) rfl)
theorem ml_7_123 : Cond.methodLink RX7 123 Y3_shortOf.1 ∈ gj_tb := (gj_at 473 (by decide +kernel) rfl)
theorem ml_7_126 : Cond.methodLink RX7 126 Y3_bestOf.1 ∈ gj_tb := (gj_at 505 (by decide +kernel) rfl)
theorem ml_7_129 : Cond.methodLink RX7 129 Y7_hasPan.1 ∈ gj_tb := (gj_at 517 (by decide +kernel) rfl)
theorem ml_7_132 : Cond.methodLink RX7 132 Y7_isFrame.1 ∈ gj_tb := (gj_at 521 (by decide +kernel) rfl)
theorem ml_7_135 : Cond.methodLink RX7 135 Y7_panOf.1 ∈ gj_tb := (gj_at 524 (by decide +kernel) rfl)
theorem ml_7_138 : Cond.methodLink RX7 138 Y4_panAt.1 ∈ gj_tb := (gj_at 527 (by decide +kernel) rfl)
theorem ml_7_142 : Cond.methodLink RX7 142 Y0_add.1 ∈ gj_tb := (gj_at 535 (by decide +kernel) rfl)
theorem ml_7_155 : Cond.methodLink RX7 155 Y4_tellPan.1 ∈ gj_tb := (gj_at 552 (by decide +kernel) rfl)
theorem ml_7_159 : Cond.methodLink RX7 159 Y3_isOrder.1 ∈ gj_tb := (gj_at 557 (by decide +kernel) rfl)
theorem ml_7_165 : Cond.methodLink RX7 165 Y4_addSwitch.1 ∈ gj_tb := (gj_at 567 (by decide +kernel) rfl)
theorem ml_7_175 : Cond.methodLink RX7 175 Y4_dropSwitch.1 ∈ gj_tb := (gj_at 575 (by decide +kernel) rfl)
theorem ml_7_182 : Cond.methodLink RX7 182 Y0_takeBackLast.1 ∈ gj_tb := (gj_at 583 (by decide +kernel) rfl)
theorem ml_7_186 : Cond.methodLink RX7 186 Y3_drawingOn.1 ∈ gj_tb := (gj_at 594 (by decide +kernel) rfl)
theorem ml_7_189 : Cond.methodLink RX7 189 Y3_orderAt.1 ∈ gj_tb := (gj_at 599 (by decide +kernel) rfl)
theorem ml_7_192 : Cond.methodLink RX7 192 Y7_isWindow.1 ∈ gj_tb := (gj_at 611 (by decide +kernel) rfl)
theorem ml_7_195 : Cond.methodLink RX7 195 Y3_seenAt.1 ∈ gj_tb := (gj_at 614 (by decide +kernel) rfl)
theorem ml_7_199 : Cond.methodLink RX7 199 Y3_changes.1 ∈ gj_tb := (gj_at 628 (by decide +kernel) rfl)
theorem ml_7_203 : Cond.methodLink RX7 203 Y3_cels.1 ∈ gj_tb := (gj_at 637 (by decide +kernel) rfl)
theorem ml_7_208 : Cond.methodLink RX7 208 Y4_copyFrom.1 ∈ gj_tb := (gj_at 643 (by decide +kernel) rfl)
theorem ml_7_210 : Cond.methodLink RX7 210 Y7_firstThatCanNotBe.1 ∈ gj_tb := (gj_at 647 (by decide +kernel) rfl)
theorem ml_7_215 : Cond.methodLink RX7 215 Y6_add.1 ∈ gj_tb := (gj_at 668 (by decide +kernel) rfl)
theorem ml_7_218 : Cond.methodLink RX7 218 Y6_clear.1 ∈ gj_tb := (gj_at 676 (by decide +kernel) rfl)
theorem ml_7_222 : Cond.methodLink RX7 222 Y6_allSoWithout.1 ∈ gj_tb := (gj_at 684 (by decide +kernel) rfl)
theorem ml_7_226 : Cond.methodLink RX7 226 Y3_shareInTwelfths.1 ∈ gj_tb := (gj_at 693 (by decide +kernel) rfl)
theorem ml_7_229 : Cond.methodLink RX7 229 Y7_fractionPart.1 ∈ gj_tb := (gj_at 705 (by decide +kernel) rfl)
theorem ml_7_233 : Cond.methodLink RX7 233 Y3_levelsCovering.1 ∈ gj_tb := (gj_at 715 (by decide +kernel) rfl)
theorem ml_7_244 : Cond.methodLink RX7 244 Y7_keptIn.1 ∈ gj_tb := (gj_at 730 (by decide +kernel) rfl)
theorem ml_7_248 : Cond.methodLink RX7 248 Y7_comesTrue.1 ∈ gj_tb := (gj_at 651 (by decide +kernel) rfl)
theorem ml_7_251 : Cond.methodLink RX7 251 Y7_delayForNow.1 ∈ gj_tb := (gj_at 655 (by decide +kernel) rfl)
theorem ml_7_255 : Cond.methodLink RX7 255 Y7_redrawForNow.1 ∈ gj_tb := (gj_at 659 (by decide +kernel) rfl)
theorem ml_7_259 : Cond.methodLink RX7 259 Y3_levelInOrder.1 ∈ gj_tb := (gj_at 663 (by decide +kernel) rfl)
theorem ml_7_262 : Cond.methodLink RX7 262 Y7_commonDivisor.1 ∈ gj_tb := (gj_at 708 (by decide +kernel) rfl)
theorem ml_0_3 : Cond.methodLink RX0 3 Lib.objectInit ∈ gj_tb := (gj_at 254 (by decide +kernel) rfl)
theorem ml_0_19 : Cond.methodLink RX0 19 Y0_forgetFirst.1 ∈ gj_tb := (gj_at 539 (by decide +kernel) rfl)
theorem ml_0_22 : Cond.methodLink RX0 22 arraycopyName ∈ gj_tb := (gj_at 543 (by decide +kernel) rfl)
theorem ml_0_39 : Cond.methodLink RX0 39 Y4_tellPan.1 ∈ gj_tb := (gj_at 587 (by decide +kernel) rfl)
theorem ml_0_43 : Cond.methodLink RX0 43 Y4_dropSwitch.1 ∈ gj_tb := (gj_at 588 (by decide +kernel) rfl)
theorem ml_0_47 : Cond.methodLink RX0 47 Y4_addSwitch.1 ∈ gj_tb := (gj_at 589 (by decide +kernel) rfl)
theorem ml_1_3 : Cond.methodLink RX1 3 Lib.objectInit ∈ gj_tb := (gj_at 79 (by decide +kernel) rfl)
theorem ml_1_22 : Cond.methodLink RX1 22 Y2_clear.1 ∈ gj_tb := (gj_at 342 (by decide +kernel) rfl)
theorem ml_1_32 : Cond.methodLink RX1 32 Y1_takes.1 ∈ gj_tb := (gj_at 346 (by decide +kernel) rfl)
theorem ml_1_36 : Cond.methodLink RX1 36 Y1_takesDrawing.1 ∈ gj_tb := (gj_at 350 (by decide +kernel) rfl)
theorem ml_1_40 : Cond.methodLink RX1 40 Y1_takesLevel.1 ∈ gj_tb := (gj_at 354 (by decide +kernel) rfl)
theorem ml_1_46 : Cond.methodLink RX1 46 Y1_takesWidth.1 ∈ gj_tb := (gj_at 362 (by decide +kernel) rfl)
theorem ml_1_49 : Cond.methodLink RX1 49 Y1_takesItemOrEnd.1 ∈ gj_tb := (gj_at 370 (by decide +kernel) rfl)
theorem ml_1_52 : Cond.methodLink RX1 52 Y1_takesItem.1 ∈ gj_tb := (gj_at 374 (by decide +kernel) rfl)
theorem ml_1_55 : Cond.methodLink RX1 55 Y1_takesHold.1 ∈ gj_tb := (gj_at 386 (by decide +kernel) rfl)
theorem ml_1_58 : Cond.methodLink RX1 58 Y1_takesTimes.1 ∈ gj_tb := (gj_at 398 (by decide +kernel) rfl)
theorem ml_1_64 : Cond.methodLink RX1 64 Y2_addDrawing.1 ∈ gj_tb := (gj_at 366 (by decide +kernel) rfl)
theorem ml_1_71 : Cond.methodLink RX1 71 Y2_addLevel.1 ∈ gj_tb := (gj_at 358 (by decide +kernel) rfl)
theorem ml_1_74 : Cond.methodLink RX1 74 Y1_takesOpening.1 ∈ gj_tb := (gj_at 378 (by decide +kernel) rfl)
theorem ml_1_80 : Cond.methodLink RX1 80 Y2_lastLong.1 ∈ gj_tb := (gj_at 382 (by decide +kernel) rfl)
theorem ml_1_84 : Cond.methodLink RX1 84 Y2_hold.1 ∈ gj_tb := (gj_at 390 (by decide +kernel) rfl)
theorem ml_1_87 : Cond.methodLink RX1 87 Y2_repeatFrom.1 ∈ gj_tb := (gj_at 402 (by decide +kernel) rfl)
theorem ml_2_3 : Cond.methodLink RX2 3 Lib.objectInit ∈ gj_tb := (gj_at 85 (by decide +kernel) rfl)
theorem ml_2_31 : Cond.methodLink RX2 31 Y2_append.1 ∈ gj_tb := (gj_at 394 (by decide +kernel) rfl)
theorem ml_2_35 : Cond.methodLink RX2 35 Y2_lastLong.1 ∈ gj_tb := (gj_at 406 (by decide +kernel) rfl)
theorem ml_2_39 : Cond.methodLink RX2 39 arraycopyName ∈ gj_tb := (gj_at 415 (by decide +kernel) rfl)
theorem ml_3_3 : Cond.methodLink RX3 3 Lib.objectInit ∈ gj_tb := (gj_at 144 (by decide +kernel) rfl)
theorem ml_3_20 : Cond.methodLink RX3 20 Y4_init.1 ∈ gj_tb := (gj_at 149 (by decide +kernel) rfl)
theorem ml_3_61 : Cond.methodLink RX3 61 Y3_levelInOrder.1 ∈ gj_tb := (gj_at 563 (by decide +kernel) rfl)
theorem ml_3_65 : Cond.methodLink RX3 65 Y4_switchFor.1 ∈ gj_tb := (gj_at 603 (by decide +kernel) rfl)
theorem ml_3_78 : Cond.methodLink RX3 78 Y4_panAt.1 ∈ gj_tb := (gj_at 623 (by decide +kernel) rfl)
theorem ml_3_84 : Cond.methodLink RX3 84 Y3_drawingOn.1 ∈ gj_tb := (gj_at 454 (by decide +kernel) rfl)
theorem ml_3_87 : Cond.methodLink RX3 87 Y3_covers.1 ∈ gj_tb := (gj_at 619 (by decide +kernel) rfl)
theorem ml_3_91 : Cond.methodLink RX3 91 Y3_orderAt.1 ∈ gj_tb := (gj_at 618 (by decide +kernel) rfl)
theorem ml_3_94 : Cond.methodLink RX3 94 Y3_levelCovers.1 ∈ gj_tb := (gj_at 697 (by decide +kernel) rfl)
theorem ml_3_98 : Cond.methodLink RX3 98 Y3_viewBecomes.1 ∈ gj_tb := (gj_at 632 (by decide +kernel) rfl)
theorem ml_3_102 : Cond.methodLink RX3 102 Y3_seenAt.1 ∈ gj_tb := (gj_at 636 (by decide +kernel) rfl)
theorem ml_3_106 : Cond.methodLink RX3 106 Y3_findMost.1 ∈ gj_tb := (gj_at 447 (by decide +kernel) rfl)
theorem ml_3_109 : Cond.methodLink RX3 109 Y3_clearDrawings.1 ∈ gj_tb := (gj_at 451 (by decide +kernel) rfl)
theorem ml_3_113 : Cond.methodLink RX3 113 Y3_countDrawing.1 ∈ gj_tb := (gj_at 458 (by decide +kernel) rfl)
theorem ml_3_117 : Cond.methodLink RX3 117 Lib.Math.max.name ∈ gj_tb := (gj_at 462 (by decide +kernel) rfl)
theorem ml_3_122 : Cond.methodLink RX3 122 Y5_lettersFor.1 ∈ gj_tb := (gj_at 477 (by decide +kernel) rfl)
theorem ml_3_126 : Cond.methodLink RX3 126 Y3_cels.1 ∈ gj_tb := (gj_at 509 (by decide +kernel) rfl)
theorem ml_3_130 : Cond.methodLink RX3 130 Y3_levelsCovering.1 ∈ gj_tb := (gj_at 701 (by decide +kernel) rfl)
theorem ml_4_3 : Cond.methodLink RX4 3 Lib.objectInit ∈ gj_tb := (gj_at 152 (by decide +kernel) rfl)
theorem ml_4_41 : Cond.methodLink RX4 41 arraycopyName ∈ gj_tb := (gj_at 422 (by decide +kernel) rfl)
theorem ml_4_50 : Cond.methodLink RX4 50 Y4_tellPan.1 ∈ gj_tb := (gj_at 423 (by decide +kernel) rfl)
theorem ml_5_3 : Cond.methodLink RX5 3 Lib.objectInit ∈ gj_tb := (gj_at 202 (by decide +kernel) rfl)
theorem ml_5_35 : Cond.methodLink RX5 35 Lib.Math.min.name ∈ gj_tb := (gj_at 481 (by decide +kernel) rfl)
theorem ml_5_48 : Cond.methodLink RX5 48 arraycopyName ∈ gj_tb := (gj_at 484 (by decide +kernel) rfl)
theorem ml_5_54 : Cond.methodLink RX5 54 Y5_findLike.1 ∈ gj_tb := (gj_at 485 (by decide +kernel) rfl)
theorem ml_5_58 : Cond.methodLink RX5 58 Y5_findPlain.1 ∈ gj_tb := (gj_at 489 (by decide +kernel) rfl)
theorem ml_5_61 : Cond.methodLink RX5 61 Y5_findItems.1 ∈ gj_tb := (gj_at 493 (by decide +kernel) rfl)
theorem ml_5_65 : Cond.methodLink RX5 65 Y5_findOnce.1 ∈ gj_tb := (gj_at 497 (by decide +kernel) rfl)
theorem ml_5_68 : Cond.methodLink RX5 68 Y5_findTwice.1 ∈ gj_tb := (gj_at 501 (by decide +kernel) rfl)
theorem ml_6_3 : Cond.methodLink RX6 3 Lib.objectInit ∈ gj_tb := (gj_at 268 (by decide +kernel) rfl)
theorem ml_6_25 : Cond.methodLink RX6 25 Y3_seenAt.1 ∈ gj_tb := (gj_at 688 (by decide +kernel) rfl)
theorem ml_L_9 : Cond.methodLink RL 9 Y7_init.1 ∈ gj_tb := (gj_at 68 (by decide +kernel) rfl)
theorem ml_L_12 : Cond.methodLink RL 12 Y8_init.1 ∈ gj_tb := (gj_at 744 (by decide +kernel) rfl)
theorem ml_L_13 : Cond.methodLink RL 13 Y7_write.1 ∈ gj_tb := (gj_at 326 (by decide +kernel) rfl)
theorem ml_L_17 : Cond.methodLink RL 17 Y8_write.1 ∈ gj_tb := (gj_at 836 (by decide +kernel) rfl)
theorem ml_L_18 : Cond.methodLink RL 18 Y7_wipe.1 ∈ gj_tb := (gj_at 330 (by decide +kernel) rfl)
theorem ml_L_22 : Cond.methodLink RL 22 Y8_wipe.1 ∈ gj_tb := (gj_at 844 (by decide +kernel) rfl)
theorem ml_L_23 : Cond.methodLink RL 23 Y7_fault.1 ∈ gj_tb := (gj_at 334 (by decide +kernel) rfl)
theorem ml_L_26 : Cond.methodLink RL 26 Y8_fault.1 ∈ gj_tb := (gj_at 848 (by decide +kernel) rfl)
theorem ml_L_27 : Cond.methodLink RL 27 Y7_reel.1 ∈ gj_tb := (gj_at 407 (by decide +kernel) rfl)
theorem ml_L_30 : Cond.methodLink RL 30 Y8_reel.1 ∈ gj_tb := (gj_at 876 (by decide +kernel) rfl)
theorem ml_L_31 : Cond.methodLink RL 31 Y7_drawing.1 ∈ gj_tb := (gj_at 435 (by decide +kernel) rfl)
theorem ml_L_35 : Cond.methodLink RL 35 Y8_drawing.1 ∈ gj_tb := (gj_at 880 (by decide +kernel) rfl)
theorem ml_L_36 : Cond.methodLink RL 36 Y7_level.1 ∈ gj_tb := (gj_at 465 (by decide +kernel) rfl)
theorem ml_L_39 : Cond.methodLink RL 39 Y8_level.1 ∈ gj_tb := (gj_at 896 (by decide +kernel) rfl)
theorem ml_L_40 : Cond.methodLink RL 40 Y7_where.1 ∈ gj_tb := (gj_at 513 (by decide +kernel) rfl)
theorem ml_L_43 : Cond.methodLink RL 43 Y8_where.1 ∈ gj_tb := (gj_at 928 (by decide +kernel) rfl)
theorem ml_L_44 : Cond.methodLink RL 44 Y7_redraw.1 ∈ gj_tb := (gj_at 531 (by decide +kernel) rfl)
theorem ml_L_48 : Cond.methodLink RL 48 Y8_redraw.1 ∈ gj_tb := (gj_at 939 (by decide +kernel) rfl)
theorem ml_L_49 : Cond.methodLink RL 49 Y7_delay.1 ∈ gj_tb := (gj_at 544 (by decide +kernel) rfl)
theorem ml_L_52 : Cond.methodLink RL 52 Y8_delay.1 ∈ gj_tb := (gj_at 949 (by decide +kernel) rfl)
theorem ml_L_53 : Cond.methodLink RL 53 Y7_pan.1 ∈ gj_tb := (gj_at 548 (by decide +kernel) rfl)
theorem ml_L_57 : Cond.methodLink RL 57 Y8_pan.1 ∈ gj_tb := (gj_at 953 (by decide +kernel) rfl)
theorem ml_L_58 : Cond.methodLink RL 58 Y7_swap.1 ∈ gj_tb := (gj_at 553 (by decide +kernel) rfl)
theorem ml_L_61 : Cond.methodLink RL 61 Y8_swap.1 ∈ gj_tb := (gj_at 960 (by decide +kernel) rfl)
theorem ml_L_62 : Cond.methodLink RL 62 Y7_back.1 ∈ gj_tb := (gj_at 571 (by decide +kernel) rfl)
theorem ml_L_65 : Cond.methodLink RL 65 Y8_back.1 ∈ gj_tb := (gj_at 975 (by decide +kernel) rfl)
theorem ml_L_66 : Cond.methodLink RL 66 Y7_undo.1 ∈ gj_tb := (gj_at 579 (by decide +kernel) rfl)
theorem ml_L_69 : Cond.methodLink RL 69 Y8_undo.1 ∈ gj_tb := (gj_at 979 (by decide +kernel) rfl)
theorem ml_L_70 : Cond.methodLink RL 70 Y7_exposed.1 ∈ gj_tb := (gj_at 590 (by decide +kernel) rfl)
theorem ml_L_73 : Cond.methodLink RL 73 Y8_exposed.1 ∈ gj_tb := (gj_at 983 (by decide +kernel) rfl)
theorem ml_L_74 : Cond.methodLink RL 74 Y7_order.1 ∈ gj_tb := (gj_at 595 (by decide +kernel) rfl)
theorem ml_L_77 : Cond.methodLink RL 77 Y8_order.1 ∈ gj_tb := (gj_at 987 (by decide +kernel) rfl)
theorem ml_L_78 : Cond.methodLink RL 78 Y7_look.1 ∈ gj_tb := (gj_at 607 (by decide +kernel) rfl)
theorem ml_L_81 : Cond.methodLink RL 81 Y8_look.1 ∈ gj_tb := (gj_at 999 (by decide +kernel) rfl)
theorem ml_L_82 : Cond.methodLink RL 82 Y7_ask.1 ∈ gj_tb := (gj_at 624 (by decide +kernel) rfl)
theorem ml_L_85 : Cond.methodLink RL 85 Y8_ask.1 ∈ gj_tb := (gj_at 1010 (by decide +kernel) rfl)
theorem ml_L_88 : Cond.methodLink RL 88 Y7_judge.1 ∈ gj_tb := (gj_at 638 (by decide +kernel) rfl)
theorem ml_L_92 : Cond.methodLink RL 92 Y8_judge.1 ∈ gj_tb := (gj_at 1018 (by decide +kernel) rfl)
theorem ml_L_93 : Cond.methodLink RL 93 Y7_see.1 ∈ gj_tb := (gj_at 664 (by decide +kernel) rfl)
theorem ml_L_96 : Cond.methodLink RL 96 Y8_see.1 ∈ gj_tb := (gj_at 1031 (by decide +kernel) rfl)
theorem ml_L_97 : Cond.methodLink RL 97 Y7_unsee.1 ∈ gj_tb := (gj_at 672 (by decide +kernel) rfl)
theorem ml_L_100 : Cond.methodLink RL 100 Y8_unsee.1 ∈ gj_tb := (gj_at 1036 (by decide +kernel) rfl)
theorem ml_L_101 : Cond.methodLink RL 101 Y7_which.1 ∈ gj_tb := (gj_at 680 (by decide +kernel) rfl)
theorem ml_L_104 : Cond.methodLink RL 104 Y8_which.1 ∈ gj_tb := (gj_at 1040 (by decide +kernel) rfl)
theorem ml_L_105 : Cond.methodLink RL 105 Y7_share.1 ∈ gj_tb := (gj_at 689 (by decide +kernel) rfl)
theorem ml_L_109 : Cond.methodLink RL 109 Y8_share.1 ∈ gj_tb := (gj_at 1044 (by decide +kernel) rfl)
theorem ml_L_110 : Cond.methodLink RL 110 Y7_lost.1 ∈ gj_tb := (gj_at 711 (by decide +kernel) rfl)
theorem ml_L_114 : Cond.methodLink RL 114 Y8_lost.1 ∈ gj_tb := (gj_at 1064 (by decide +kernel) rfl)
theorem ml_L_115 : Cond.methodLink RL 115 Y7_seed.1 ∈ gj_tb := (gj_at 716 (by decide +kernel) rfl)
theorem ml_L_119 : Cond.methodLink RL 119 Y8_seed.1 ∈ gj_tb := (gj_at 1069 (by decide +kernel) rfl)
theorem ml_L_120 : Cond.methodLink RL 120 Y7_looks.1 ∈ gj_tb := (gj_at 720 (by decide +kernel) rfl)
theorem ml_L_123 : Cond.methodLink RL 123 Y8_looks.1 ∈ gj_tb := (gj_at 1073 (by decide +kernel) rfl)
theorem ml_L_124 : Cond.methodLink RL 124 Y7_keep.1 ∈ gj_tb := (gj_at 726 (by decide +kernel) rfl)
theorem ml_L_127 : Cond.methodLink RL 127 Y8_keep.1 ∈ gj_tb := (gj_at 1080 (by decide +kernel) rfl)
theorem ml_L_128 : Cond.methodLink RL 128 Y7_again.1 ∈ gj_tb := (gj_at 734 (by decide +kernel) rfl)
theorem ml_L_131 : Cond.methodLink RL 131 Y8_again.1 ∈ gj_tb := (gj_at 1084 (by decide +kernel) rfl)
theorem ml_L_132 : Cond.methodLink RL 132 Y7_count.1 ∈ gj_tb := (gj_at 738 (by decide +kernel) rfl)
theorem ml_L_135 : Cond.methodLink RL 135 Y8_count.1 ∈ gj_tb := (gj_at 1088 (by decide +kernel) rfl)
theorem ml_8_1 : Cond.methodLink RX8 1 Lib.objectInit ∈ gj_tb := (gj_at 747 (by decide +kernel) rfl)
theorem ml_8_65 : Cond.methodLink RX8 65 Y8_fresh.1 ∈ gj_tb := (gj_at 748 (by decide +kernel) rfl)
theorem ml_8_76 : Cond.methodLink RX8 76 Y8_in.1 ∈ gj_tb := (gj_at 841 (by decide +kernel) rfl)
theorem ml_8_96 : Cond.methodLink RX8 96 Y8_figure.1 ∈ gj_tb := (gj_at 860 (by decide +kernel) rfl)
theorem ml_8_103 : Cond.methodLink RX8 103 Y8_spread.1 ∈ gj_tb := (gj_at 872 (by decide +kernel) rfl)
theorem ml_8_107 : Cond.methodLink RX8 107 Y8_over.1 ∈ gj_tb := (gj_at 868 (by decide +kernel) rfl)
theorem ml_8_110 : Cond.methodLink RX8 110 Y8_readDrawing.1 ∈ gj_tb := (gj_at 856 (by decide +kernel) rfl)
theorem ml_8_114 : Cond.methodLink RX8 114 Y8_readSheet.1 ∈ gj_tb := (gj_at 864 (by decide +kernel) rfl)
theorem ml_8_117 : Cond.methodLink RX8 117 Y8_readReel.1 ∈ gj_tb := (gj_at 852 (by decide +kernel) rfl)
theorem ml_8_124 : Cond.methodLink RX8 124 Y8_firstOrder.1 ∈ gj_tb := (gj_at 995 (by decide +kernel) rfl)
theorem ml_8_127 : Cond.methodLink RX8 127 Y8_orderAt.1 ∈ gj_tb := (gj_at 991 (by decide +kernel) rfl)
theorem ml_8_131 : Cond.methodLink RX8 131 Y8_whereIs.1 ∈ gj_tb := (gj_at 936 (by decide +kernel) rfl)
theorem ml_8_135 : Cond.methodLink RX8 135 Y8_power.1 ∈ gj_tb := (gj_at 968 (by decide +kernel) rfl)
theorem ml_8_138 : Cond.methodLink RX8 138 Y8_exposedOn.1 ∈ gj_tb := (gj_at 892 (by decide +kernel) rfl)
theorem ml_8_141 : Cond.methodLink RX8 141 Y8_has.1 ∈ gj_tb := (gj_at 1007 (by decide +kernel) rfl)
theorem ml_8_144 : Cond.methodLink RX8 144 Y8_mostOf.1 ∈ gj_tb := (gj_at 888 (by decide +kernel) rfl)
theorem ml_8_147 : Cond.methodLink RX8 147 Y8_every.1 ∈ gj_tb := (gj_at 971 (by decide +kernel) rfl)
theorem ml_8_150 : Cond.methodLink RX8 150 Y8_lookBy.1 ∈ gj_tb := (gj_at 1003 (by decide +kernel) rfl)
theorem ml_8_154 : Cond.methodLink RX8 154 Y8_layLike.1 ∈ gj_tb := (gj_at 908 (by decide +kernel) rfl)
theorem ml_8_158 : Cond.methodLink RX8 158 Y8_itemOf.1 ∈ gj_tb := (gj_at 912 (by decide +kernel) rfl)
theorem ml_8_162 : Cond.methodLink RX8 162 Y8_layTrial.1 ∈ gj_tb := (gj_at 920 (by decide +kernel) rfl)
theorem ml_8_165 : Cond.methodLink RX8 165 Y8_cels.1 ∈ gj_tb := (gj_at 924 (by decide +kernel) rfl)
theorem ml_8_169 : Cond.methodLink RX8 169 Y8_noDrawing.1 ∈ gj_tb := (gj_at 884 (by decide +kernel) rfl)
theorem ml_8_173 : Cond.methodLink RX8 173 Y8_noLevel.1 ∈ gj_tb := (gj_at 900 (by decide +kernel) rfl)
theorem ml_8_176 : Cond.methodLink RX8 176 Y8_shortest.1 ∈ gj_tb := (gj_at 904 (by decide +kernel) rfl)
theorem ml_8_180 : Cond.methodLink RX8 180 Y8_bestDelay.1 ∈ gj_tb := (gj_at 916 (by decide +kernel) rfl)
theorem ml_8_183 : Cond.methodLink RX8 183 Y8_isFrame.1 ∈ gj_tb := (gj_at 932 (by decide +kernel) rfl)
theorem ml_8_190 : Cond.methodLink RX8 190 Y8_note.1 ∈ gj_tb := (gj_at 945 (by decide +kernel) rfl)
theorem ml_8_199 : Cond.methodLink RX8 199 Y8_isOrder.1 ∈ gj_tb := (gj_at 964 (by decide +kernel) rfl)
theorem ml_8_202 : Cond.methodLink RX8 202 Y8_changes.1 ∈ gj_tb := (gj_at 1014 (by decide +kernel) rfl)
theorem ml_8_209 : Cond.methodLink RX8 209 Y8_longPower.1 ∈ gj_tb := (gj_at 1024 (by decide +kernel) rfl)
theorem ml_8_213 : Cond.methodLink RX8 213 Y8_does.1 ∈ gj_tb := (gj_at 1027 (by decide +kernel) rfl)
theorem ml_8_222 : Cond.methodLink RX8 222 Y8_divisor.1 ∈ gj_tb := (gj_at 1061 (by decide +kernel) rfl)
theorem ml_8_225 : Cond.methodLink RX8 225 Y8_ones.1 ∈ gj_tb := (gj_at 1048 (by decide +kernel) rfl)
theorem ml_8_228 : Cond.methodLink RX8 228 Y8_factorial.1 ∈ gj_tb := (gj_at 1051 (by decide +kernel) rfl)
theorem ml_8_231 : Cond.methodLink RX8 231 Y8_coveredBy.1 ∈ gj_tb := (gj_at 1054 (by decide +kernel) rfl)
theorem ml_8_234 : Cond.methodLink RX8 234 Y8_fraction.1 ∈ gj_tb := (gj_at 1058 (by decide +kernel) rfl)
theorem ml_7_15 : ∃ host, Cond.methodLinkNest RX7 15 Y1_init.1 host ∈ gj_nb := ⟨"CelSheets", (gj_an 76 (by decide +kernel) rfl)⟩
theorem ml_7_22 : ∃ host, Cond.methodLinkNest RX7 22 Y3_init.1 host ∈ gj_nb := ⟨"CelSheets", (gj_an 141 (by decide +kernel) rfl)⟩
theorem ml_7_43 : ∃ host, Cond.methodLinkNest RX7 43 Y0_init.1 host ∈ gj_nb := ⟨"CelSheets", (gj_an 251 (by decide +kernel) rfl)⟩
theorem ml_7_50 : ∃ host, Cond.methodLinkNest RX7 50 Y6_init.1 host ∈ gj_nb := ⟨"CelSheets", (gj_an 265 (by decide +kernel) rfl)⟩
theorem ml_1_11 : ∃ host, Cond.methodLinkNest RX1 11 Y2_init.1 host ∈ gj_nb := ⟨"CelSheets", (gj_an 82 (by decide +kernel) rfl)⟩
theorem ml_3_11 : ∃ host, Cond.methodLinkNest RX3 11 Y2_init.1 host ∈ gj_nb := ⟨"CelSheets", (gj_an 146 (by decide +kernel) rfl)⟩
theorem ml_3_27 : ∃ host, Cond.methodLinkNest RX3 27 Y5_init.1 host ∈ gj_nb := ⟨"CelSheets", (gj_an 199 (by decide +kernel) rfl)⟩
theorem fl_7_9 : gj_fl RX7 9 7 0 0 := ⟨RX7, TX7, 13, tyX7, k_X7, by decide, rfl, (gj_at 285 (by decide +kernel) rfl)⟩
theorem fw_7_9 : gj_fw RX7 9 7 0 0 (.array .int) true := ⟨RX7, TX7, 13, tyX7, k_X7, by decide, rfl, (gj_at 285 (by decide +kernel) rfl), rfl, by decide +kernel, fun _ => rfl⟩
theorem fl_7_16 : gj_fl RX7 16 7 2 2 := ⟨RX7, TX7, 13, tyX7, k_X7, by decide, rfl, (gj_at 287 (by decide +kernel) rfl)⟩
theorem fw_7_16 : gj_fw RX7 16 7 2 2 (.object "CelSheets$Reader") true := ⟨RX7, TX7, 13, tyX7, k_X7, by decide, rfl, (gj_at 287 (by decide +kernel) rfl), rfl, by decide +kernel, fun _ => rfl⟩
theorem fl_7_23 : gj_fl RX7 23 7 3 3 := ⟨RX7, TX7, 13, tyX7, k_X7, by decide, rfl, (gj_at 288 (by decide +kernel) rfl)⟩
theorem fw_7_23 : gj_fw RX7 23 7 3 3 (.object "CelSheets$Scene") true := ⟨RX7, TX7, 13, tyX7, k_X7, by decide, rfl, (gj_at 288 (by decide +kernel) rfl), rfl, by decide +kernel, fun _ => rfl⟩
theorem fl_7_27 : gj_fl RX7 27 3 0 0 := ⟨RX3, TX3, 7, tyX3, k_X3, by decide, rfl, (gj_at 226 (by decide +kernel) rfl)⟩
theorem fl_7_31 : gj_fl RX7 31 7 4 4 := ⟨RX7, TX7, 13, tyX7, k_X7, by decide, rfl, (gj_at 289 (by decide +kernel) rfl)⟩
theorem fw_7_31 : gj_fw RX7 31 7 4 4 (.object "CelSheets$Reel") true := ⟨RX7, TX7, 13, tyX7, k_X7, by decide, rfl, (gj_at 289 (by decide +kernel) rfl), rfl, by decide +kernel, fun _ => rfl⟩
theorem fl_7_34 : gj_fl RX7 34 3 1 1 := ⟨RX3, TX3, 7, tyX3, k_X3, by decide, rfl, (gj_at 228 (by decide +kernel) rfl)⟩
theorem fl_7_38 : gj_fl RX7 38 7 5 5 := ⟨RX7, TX7, 13, tyX7, k_X7, by decide, rfl, (gj_at 290 (by decide +kernel) rfl)⟩
theorem fw_7_38 : gj_fw RX7 38 7 5 5 (.object "CelSheets$Setting") true := ⟨RX7, TX7, 13, tyX7, k_X7, by decide, rfl, (gj_at 290 (by decide +kernel) rfl), rfl, by decide +kernel, fun _ => rfl⟩
theorem fl_7_44 : gj_fl RX7 44 7 6 6 := ⟨RX7, TX7, 13, tyX7, k_X7, by decide, rfl, (gj_at 291 (by decide +kernel) rfl)⟩
theorem fw_7_44 : gj_fw RX7 44 7 6 6 (.object "CelSheets$Acts") true := ⟨RX7, TX7, 13, tyX7, k_X7, by decide, rfl, (gj_at 291 (by decide +kernel) rfl), rfl, by decide +kernel, fun _ => rfl⟩
theorem fl_7_51 : gj_fl RX7 51 7 7 7 := ⟨RX7, TX7, 13, tyX7, k_X7, by decide, rfl, (gj_at 292 (by decide +kernel) rfl)⟩
theorem fw_7_51 : gj_fw RX7 51 7 7 7 (.object "CelSheets$Sightings") true := ⟨RX7, TX7, 13, tyX7, k_X7, by decide, rfl, (gj_at 292 (by decide +kernel) rfl), rfl, by decide +kernel, fun _ => rfl⟩
theorem fl_7_58 : gj_fl RX7 58 7 8 8 := ⟨RX7, TX7, 13, tyX7, k_X7, by decide, rfl, (gj_at 293 (by decide +kernel) rfl)⟩
theorem fw_7_58 : gj_fw RX7 58 7 8 8 (.object "CelSheets$Setting") true := ⟨RX7, TX7, 13, tyX7, k_X7, by decide, rfl, (gj_at 293 (by decide +kernel) rfl), rfl, by decide +kernel, fun _ => rfl⟩
theorem fl_7_61 : gj_fl RX7 61 7 9 9 := ⟨RX7, TX7, 13, tyX7, k_X7, by decide, rfl, (gj_at 294 (by decide +kernel) rfl)⟩
theorem fw_7_61 : gj_fw RX7 61 7 9 9 (.object "CelSheets$Setting") true := ⟨RX7, TX7, 13, tyX7, k_X7, by decide, rfl, (gj_at 294 (by decide +kernel) rfl), rfl, by decide +kernel, fun _ => rfl⟩
theorem fl_7_64 : gj_fl RX7 64 7 10 10 := ⟨RX7, TX7, 13, tyX7, k_X7, by decide, rfl, (gj_at 295 (by decide +kernel) rfl)⟩
theorem fw_7_64 : gj_fw RX7 64 7 10 10 (.object "CelSheets$Setting") true := ⟨RX7, TX7, 13, tyX7, k_X7, by decide, rfl, (gj_at 295 (by decide +kernel) rfl), rfl, by decide +kernel, fun _ => rfl⟩
theorem fl_7_67 : gj_fl RX7 67 7 11 11 := ⟨RX7, TX7, 13, tyX7, k_X7, by decide, rfl, (gj_at 296 (by decide +kernel) rfl)⟩
theorem fw_7_67 : gj_fw RX7 67 7 11 11 (.array .boolean) true := ⟨RX7, TX7, 13, tyX7, k_X7, by decide, rfl, (gj_at 296 (by decide +kernel) rfl), rfl, by decide +kernel, fun _ => rfl⟩
theorem fl_7_71 : gj_fl RX7 71 7 1 1 := ⟨RX7, TX7, 13, tyX7, k_X7, by decide, rfl, (gj_at 286 (by decide +kernel) rfl)⟩
theorem fw_7_71 : gj_fw RX7 71 7 1 1 .int false := ⟨RX7, TX7, 13, tyX7, k_X7, by decide, rfl, (gj_at 286 (by decide +kernel) rfl), rfl, by decide +kernel, fun h => by cases h⟩
theorem fl_7_79 : gj_fl RX7 79 1 0 0 := ⟨RX1, TX1, 6, tyX1, k_X1, by decide, rfl, (gj_at 120 (by decide +kernel) rfl)⟩
theorem fl_7_97 : gj_fl RX7 97 2 1 1 := ⟨RX2, TX2, 6, tyX2, k_X2, by decide, rfl, (gj_at 92 (by decide +kernel) rfl)⟩
theorem fl_7_104 : gj_fl RX7 104 4 0 0 := ⟨RX4, TX4, 9, tyX4, k_X4, by decide, rfl, (gj_at 155 (by decide +kernel) rfl)⟩
theorem fl_7_107 : gj_fl RX7 107 4 1 1 := ⟨RX4, TX4, 9, tyX4, k_X4, by decide, rfl, (gj_at 159 (by decide +kernel) rfl)⟩
theorem fl_7_117 : gj_fl RX7 117 2 4 4 := ⟨RX2, TX2, 6, tyX2, k_X2, by decide, rfl, (gj_at 101 (by decide +kernel) rfl)⟩
theorem fl_7_120 : gj_fl RX7 120 4 2 2 := ⟨RX4, TX4, 9, tyX4, k_X4, by decide, rfl, (gj_at 164 (by decide +kernel) rfl)⟩
theorem fl_7_146 : gj_fl RX7 146 4 3 3 := ⟨RX4, TX4, 9, tyX4, k_X4, by decide, rfl, (gj_at 166 (by decide +kernel) rfl)⟩
theorem fl_7_149 : gj_fl RX7 149 4 4 4 := ⟨RX4, TX4, 9, tyX4, k_X4, by decide, rfl, (gj_at 168 (by decide +kernel) rfl)⟩
theorem fl_7_152 : gj_fl RX7 152 4 5 5 := ⟨RX4, TX4, 9, tyX4, k_X4, by decide, rfl, (gj_at 170 (by decide +kernel) rfl)⟩
theorem fl_7_162 : gj_fl RX7 162 4 6 6 := ⟨RX4, TX4, 9, tyX4, k_X4, by decide, rfl, (gj_at 172 (by decide +kernel) rfl)⟩
theorem fl_7_169 : gj_fl RX7 169 4 7 7 := ⟨RX4, TX4, 9, tyX4, k_X4, by decide, rfl, (gj_at 174 (by decide +kernel) rfl)⟩
theorem fl_7_172 : gj_fl RX7 172 4 8 8 := ⟨RX4, TX4, 9, tyX4, k_X4, by decide, rfl, (gj_at 177 (by decide +kernel) rfl)⟩
theorem fl_7_179 : gj_fl RX7 179 0 0 0 := ⟨RX0, TX0, 2, tyX0, k_X0, by decide, rfl, (gj_at 256 (by decide +kernel) rfl)⟩
theorem fl_7_214 : gj_fl RX7 214 6 0 0 := ⟨RX6, TX6, 4, tyX6, k_X6, by decide, rfl, (gj_at 270 (by decide +kernel) rfl)⟩
theorem fl_7_219 : gj_fl RX7 219 2 0 0 := ⟨RX2, TX2, 6, tyX2, k_X2, by decide, rfl, (gj_at 89 (by decide +kernel) rfl)⟩
theorem fl_7_236 : gj_fl RX7 236 7 12 12 := ⟨RX7, TX7, 13, tyX7, k_X7, by decide, rfl, (gj_at 297 (by decide +kernel) rfl)⟩
theorem fw_7_236 : gj_fw RX7 236 7 12 12 .long false := ⟨RX7, TX7, 13, tyX7, k_X7, by decide, rfl, (gj_at 297 (by decide +kernel) rfl), rfl, by decide +kernel, fun h => by cases h⟩
theorem fl_0_11 : gj_fl RX0 11 0 1 1 := ⟨RX0, TX0, 2, tyX0, k_X0, by decide, rfl, (gj_at 257 (by decide +kernel) rfl)⟩
theorem fw_0_11 : gj_fw RX0 11 0 1 1 (.array .int) true := ⟨RX0, TX0, 2, tyX0, k_X0, by decide, rfl, (gj_at 257 (by decide +kernel) rfl), rfl, by decide +kernel, fun _ => rfl⟩
theorem fl_0_15 : gj_fl RX0 15 0 0 0 := ⟨RX0, TX0, 2, tyX0, k_X0, by decide, rfl, (gj_at 255 (by decide +kernel) rfl)⟩
theorem fw_0_15 : gj_fw RX0 15 0 0 0 .int false := ⟨RX0, TX0, 2, tyX0, k_X0, by decide, rfl, (gj_at 255 (by decide +kernel) rfl), rfl, by decide +kernel, fun h => by cases h⟩
theorem fl_0_28 : gj_fl RX0 28 4 0 0 := ⟨RX4, TX4, 9, tyX4, k_X4, by decide, rfl, (gj_at 154 (by decide +kernel) rfl)⟩
theorem fl_0_33 : gj_fl RX0 33 4 1 1 := ⟨RX4, TX4, 9, tyX4, k_X4, by decide, rfl, (gj_at 158 (by decide +kernel) rfl)⟩
theorem fl_0_36 : gj_fl RX0 36 4 2 2 := ⟨RX4, TX4, 9, tyX4, k_X4, by decide, rfl, (gj_at 163 (by decide +kernel) rfl)⟩
theorem fl_1_12 : gj_fl RX1 12 1 0 0 := ⟨RX1, TX1, 6, tyX1, k_X1, by decide, rfl, (gj_at 119 (by decide +kernel) rfl)⟩
theorem fw_1_12 : gj_fw RX1 12 1 0 0 (.object "CelSheets$Reel") true := ⟨RX1, TX1, 6, tyX1, k_X1, by decide, rfl, (gj_at 119 (by decide +kernel) rfl), rfl, by decide +kernel, fun _ => rfl⟩
theorem fl_1_18 : gj_fl RX1 18 1 5 5 := ⟨RX1, TX1, 6, tyX1, k_X1, by decide, rfl, (gj_at 125 (by decide +kernel) rfl)⟩
theorem fw_1_18 : gj_fw RX1 18 1 5 5 (.array .int) true := ⟨RX1, TX1, 6, tyX1, k_X1, by decide, rfl, (gj_at 125 (by decide +kernel) rfl), rfl, by decide +kernel, fun _ => rfl⟩
theorem fl_1_25 : gj_fl RX1 25 1 1 1 := ⟨RX1, TX1, 6, tyX1, k_X1, by decide, rfl, (gj_at 121 (by decide +kernel) rfl)⟩
theorem fw_1_25 : gj_fw RX1 25 1 1 1 .int false := ⟨RX1, TX1, 6, tyX1, k_X1, by decide, rfl, (gj_at 121 (by decide +kernel) rfl), rfl, by decide +kernel, fun h => by cases h⟩
theorem fl_1_29 : gj_fl RX1 29 1 2 2 := ⟨RX1, TX1, 6, tyX1, k_X1, by decide, rfl, (gj_at 122 (by decide +kernel) rfl)⟩
theorem fw_1_29 : gj_fw RX1 29 1 2 2 .int false := ⟨RX1, TX1, 6, tyX1, k_X1, by decide, rfl, (gj_at 122 (by decide +kernel) rfl), rfl, by decide +kernel, fun h => by cases h⟩
theorem fl_1_43 : gj_fl RX1 43 1 3 3 := ⟨RX1, TX1, 6, tyX1, k_X1, by decide, rfl, (gj_at 123 (by decide +kernel) rfl)⟩
theorem fw_1_43 : gj_fw RX1 43 1 3 3 .int false := ⟨RX1, TX1, 6, tyX1, k_X1, by decide, rfl, (gj_at 123 (by decide +kernel) rfl), rfl, by decide +kernel, fun h => by cases h⟩
theorem fl_1_61 : gj_fl RX1 61 2 0 0 := ⟨RX2, TX2, 6, tyX2, k_X2, by decide, rfl, (gj_at 87 (by decide +kernel) rfl)⟩
theorem fl_1_68 : gj_fl RX1 68 2 1 1 := ⟨RX2, TX2, 6, tyX2, k_X2, by decide, rfl, (gj_at 93 (by decide +kernel) rfl)⟩
theorem fl_1_77 : gj_fl RX1 77 1 4 4 := ⟨RX1, TX1, 6, tyX1, k_X1, by decide, rfl, (gj_at 124 (by decide +kernel) rfl)⟩
theorem fw_1_77 : gj_fw RX1 77 1 4 4 .int false := ⟨RX1, TX1, 6, tyX1, k_X1, by decide, rfl, (gj_at 124 (by decide +kernel) rfl), rfl, by decide +kernel, fun h => by cases h⟩
theorem fl_2_9 : gj_fl RX2 9 2 2 2 := ⟨RX2, TX2, 6, tyX2, k_X2, by decide, rfl, (gj_at 94 (by decide +kernel) rfl)⟩
theorem fw_2_9 : gj_fw RX2 9 2 2 2 (.array .int) true := ⟨RX2, TX2, 6, tyX2, k_X2, by decide, rfl, (gj_at 94 (by decide +kernel) rfl), rfl, by decide +kernel, fun _ => rfl⟩
theorem fl_2_15 : gj_fl RX2 15 2 3 3 := ⟨RX2, TX2, 6, tyX2, k_X2, by decide, rfl, (gj_at 96 (by decide +kernel) rfl)⟩
theorem fw_2_15 : gj_fw RX2 15 2 3 3 (.array .int) true := ⟨RX2, TX2, 6, tyX2, k_X2, by decide, rfl, (gj_at 96 (by decide +kernel) rfl), rfl, by decide +kernel, fun _ => rfl⟩
theorem fl_2_18 : gj_fl RX2 18 2 4 4 := ⟨RX2, TX2, 6, tyX2, k_X2, by decide, rfl, (gj_at 98 (by decide +kernel) rfl)⟩
theorem fw_2_18 : gj_fw RX2 18 2 4 4 (.array .int) true := ⟨RX2, TX2, 6, tyX2, k_X2, by decide, rfl, (gj_at 98 (by decide +kernel) rfl), rfl, by decide +kernel, fun _ => rfl⟩
theorem fl_2_21 : gj_fl RX2 21 2 5 5 := ⟨RX2, TX2, 6, tyX2, k_X2, by decide, rfl, (gj_at 102 (by decide +kernel) rfl)⟩
theorem fw_2_21 : gj_fw RX2 21 2 5 5 (.array .int) true := ⟨RX2, TX2, 6, tyX2, k_X2, by decide, rfl, (gj_at 102 (by decide +kernel) rfl), rfl, by decide +kernel, fun _ => rfl⟩
theorem fl_2_24 : gj_fl RX2 24 2 0 0 := ⟨RX2, TX2, 6, tyX2, k_X2, by decide, rfl, (gj_at 86 (by decide +kernel) rfl)⟩
theorem fw_2_24 : gj_fw RX2 24 2 0 0 .int false := ⟨RX2, TX2, 6, tyX2, k_X2, by decide, rfl, (gj_at 86 (by decide +kernel) rfl), rfl, by decide +kernel, fun h => by cases h⟩
theorem fl_2_28 : gj_fl RX2 28 2 1 1 := ⟨RX2, TX2, 6, tyX2, k_X2, by decide, rfl, (gj_at 90 (by decide +kernel) rfl)⟩
theorem fw_2_28 : gj_fw RX2 28 2 1 1 .int false := ⟨RX2, TX2, 6, tyX2, k_X2, by decide, rfl, (gj_at 90 (by decide +kernel) rfl), rfl, by decide +kernel, fun h => by cases h⟩
theorem fl_3_12 : gj_fl RX3 12 3 0 0 := ⟨RX3, TX3, 7, tyX3, k_X3, by decide, rfl, (gj_at 225 (by decide +kernel) rfl)⟩
theorem fw_3_12 : gj_fw RX3 12 3 0 0 (.object "CelSheets$Reel") true := ⟨RX3, TX3, 7, tyX3, k_X3, by decide, rfl, (gj_at 225 (by decide +kernel) rfl), rfl, by decide +kernel, fun _ => rfl⟩
theorem fl_3_21 : gj_fl RX3 21 3 1 1 := ⟨RX3, TX3, 7, tyX3, k_X3, by decide, rfl, (gj_at 227 (by decide +kernel) rfl)⟩
theorem fw_3_21 : gj_fw RX3 21 3 1 1 (.object "CelSheets$Setting") true := ⟨RX3, TX3, 7, tyX3, k_X3, by decide, rfl, (gj_at 227 (by decide +kernel) rfl), rfl, by decide +kernel, fun _ => rfl⟩
theorem fl_3_28 : gj_fl RX3 28 3 2 2 := ⟨RX3, TX3, 7, tyX3, k_X3, by decide, rfl, (gj_at 229 (by decide +kernel) rfl)⟩
theorem fw_3_28 : gj_fw RX3 28 3 2 2 (.object "CelSheets$Shortest") true := ⟨RX3, TX3, 7, tyX3, k_X3, by decide, rfl, (gj_at 229 (by decide +kernel) rfl), rfl, by decide +kernel, fun _ => rfl⟩
theorem fl_3_32 : gj_fl RX3 32 3 3 3 := ⟨RX3, TX3, 7, tyX3, k_X3, by decide, rfl, (gj_at 230 (by decide +kernel) rfl)⟩
theorem fw_3_32 : gj_fw RX3 32 3 3 3 (.array .int) true := ⟨RX3, TX3, 7, tyX3, k_X3, by decide, rfl, (gj_at 230 (by decide +kernel) rfl), rfl, by decide +kernel, fun _ => rfl⟩
theorem fl_3_36 : gj_fl RX3 36 3 4 4 := ⟨RX3, TX3, 7, tyX3, k_X3, by decide, rfl, (gj_at 231 (by decide +kernel) rfl)⟩
theorem fw_3_36 : gj_fw RX3 36 3 4 4 (.array .int) true := ⟨RX3, TX3, 7, tyX3, k_X3, by decide, rfl, (gj_at 231 (by decide +kernel) rfl), rfl, by decide +kernel, fun _ => rfl⟩
theorem fl_3_39 : gj_fl RX3 39 3 5 5 := ⟨RX3, TX3, 7, tyX3, k_X3, by decide, rfl, (gj_at 232 (by decide +kernel) rfl)⟩
theorem fw_3_39 : gj_fw RX3 39 3 5 5 (.array .int) true := ⟨RX3, TX3, 7, tyX3, k_X3, by decide, rfl, (gj_at 232 (by decide +kernel) rfl), rfl, by decide +kernel, fun _ => rfl⟩
theorem fl_3_42 : gj_fl RX3 42 3 6 6 := ⟨RX3, TX3, 7, tyX3, k_X3, by decide, rfl, (gj_at 233 (by decide +kernel) rfl)⟩
theorem fw_3_42 : gj_fw RX3 42 3 6 6 (.array .int) true := ⟨RX3, TX3, 7, tyX3, k_X3, by decide, rfl, (gj_at 233 (by decide +kernel) rfl), rfl, by decide +kernel, fun _ => rfl⟩
theorem fl_3_45 : gj_fl RX3 45 4 2 2 := ⟨RX4, TX4, 9, tyX4, k_X4, by decide, rfl, (gj_at 162 (by decide +kernel) rfl)⟩
theorem fl_3_48 : gj_fl RX3 48 2 4 4 := ⟨RX2, TX2, 6, tyX2, k_X2, by decide, rfl, (gj_at 100 (by decide +kernel) rfl)⟩
theorem fl_3_51 : gj_fl RX3 51 2 5 5 := ⟨RX2, TX2, 6, tyX2, k_X2, by decide, rfl, (gj_at 104 (by decide +kernel) rfl)⟩
theorem fl_3_57 : gj_fl RX3 57 2 1 1 := ⟨RX2, TX2, 6, tyX2, k_X2, by decide, rfl, (gj_at 91 (by decide +kernel) rfl)⟩
theorem fl_3_69 : gj_fl RX3 69 4 8 8 := ⟨RX4, TX4, 9, tyX4, k_X4, by decide, rfl, (gj_at 176 (by decide +kernel) rfl)⟩
theorem fl_3_72 : gj_fl RX3 72 2 0 0 := ⟨RX2, TX2, 6, tyX2, k_X2, by decide, rfl, (gj_at 88 (by decide +kernel) rfl)⟩
theorem fl_3_75 : gj_fl RX3 75 4 0 0 := ⟨RX4, TX4, 9, tyX4, k_X4, by decide, rfl, (gj_at 156 (by decide +kernel) rfl)⟩
theorem fl_3_81 : gj_fl RX3 81 4 1 1 := ⟨RX4, TX4, 9, tyX4, k_X4, by decide, rfl, (gj_at 160 (by decide +kernel) rfl)⟩
theorem fl_4_9 : gj_fl RX4 9 4 0 0 := ⟨RX4, TX4, 9, tyX4, k_X4, by decide, rfl, (gj_at 153 (by decide +kernel) rfl)⟩
theorem fw_4_9 : gj_fw RX4 9 4 0 0 (.array .int) true := ⟨RX4, TX4, 9, tyX4, k_X4, by decide, rfl, (gj_at 153 (by decide +kernel) rfl), rfl, by decide +kernel, fun _ => rfl⟩
theorem fl_4_15 : gj_fl RX4 15 4 1 1 := ⟨RX4, TX4, 9, tyX4, k_X4, by decide, rfl, (gj_at 157 (by decide +kernel) rfl)⟩
theorem fw_4_15 : gj_fw RX4 15 4 1 1 (.array .int) true := ⟨RX4, TX4, 9, tyX4, k_X4, by decide, rfl, (gj_at 157 (by decide +kernel) rfl), rfl, by decide +kernel, fun _ => rfl⟩
theorem fl_4_18 : gj_fl RX4 18 4 2 2 := ⟨RX4, TX4, 9, tyX4, k_X4, by decide, rfl, (gj_at 161 (by decide +kernel) rfl)⟩
theorem fw_4_18 : gj_fw RX4 18 4 2 2 (.array .int) true := ⟨RX4, TX4, 9, tyX4, k_X4, by decide, rfl, (gj_at 161 (by decide +kernel) rfl), rfl, by decide +kernel, fun _ => rfl⟩
theorem fl_4_21 : gj_fl RX4 21 4 3 3 := ⟨RX4, TX4, 9, tyX4, k_X4, by decide, rfl, (gj_at 165 (by decide +kernel) rfl)⟩
theorem fw_4_21 : gj_fw RX4 21 4 3 3 (.array .int) true := ⟨RX4, TX4, 9, tyX4, k_X4, by decide, rfl, (gj_at 165 (by decide +kernel) rfl), rfl, by decide +kernel, fun _ => rfl⟩
theorem fl_4_24 : gj_fl RX4 24 4 4 4 := ⟨RX4, TX4, 9, tyX4, k_X4, by decide, rfl, (gj_at 167 (by decide +kernel) rfl)⟩
theorem fw_4_24 : gj_fw RX4 24 4 4 4 (.array .int) true := ⟨RX4, TX4, 9, tyX4, k_X4, by decide, rfl, (gj_at 167 (by decide +kernel) rfl), rfl, by decide +kernel, fun _ => rfl⟩
theorem fl_4_27 : gj_fl RX4 27 4 5 5 := ⟨RX4, TX4, 9, tyX4, k_X4, by decide, rfl, (gj_at 169 (by decide +kernel) rfl)⟩
theorem fw_4_27 : gj_fw RX4 27 4 5 5 (.array .int) true := ⟨RX4, TX4, 9, tyX4, k_X4, by decide, rfl, (gj_at 169 (by decide +kernel) rfl), rfl, by decide +kernel, fun _ => rfl⟩
theorem fl_4_30 : gj_fl RX4 30 4 7 7 := ⟨RX4, TX4, 9, tyX4, k_X4, by decide, rfl, (gj_at 173 (by decide +kernel) rfl)⟩
theorem fw_4_30 : gj_fw RX4 30 4 7 7 (.array .int) true := ⟨RX4, TX4, 9, tyX4, k_X4, by decide, rfl, (gj_at 173 (by decide +kernel) rfl), rfl, by decide +kernel, fun _ => rfl⟩
theorem fl_4_33 : gj_fl RX4 33 4 8 8 := ⟨RX4, TX4, 9, tyX4, k_X4, by decide, rfl, (gj_at 175 (by decide +kernel) rfl)⟩
theorem fw_4_33 : gj_fw RX4 33 4 8 8 (.array .int) true := ⟨RX4, TX4, 9, tyX4, k_X4, by decide, rfl, (gj_at 175 (by decide +kernel) rfl), rfl, by decide +kernel, fun _ => rfl⟩
theorem fl_4_36 : gj_fl RX4 36 2 2 2 := ⟨RX2, TX2, 6, tyX2, k_X2, by decide, rfl, (gj_at 95 (by decide +kernel) rfl)⟩
theorem fl_4_47 : gj_fl RX4 47 2 3 3 := ⟨RX2, TX2, 6, tyX2, k_X2, by decide, rfl, (gj_at 97 (by decide +kernel) rfl)⟩
theorem fl_4_54 : gj_fl RX4 54 4 6 6 := ⟨RX4, TX4, 9, tyX4, k_X4, by decide, rfl, (gj_at 171 (by decide +kernel) rfl)⟩
theorem fw_4_54 : gj_fw RX4 54 4 6 6 .int false := ⟨RX4, TX4, 9, tyX4, k_X4, by decide, rfl, (gj_at 171 (by decide +kernel) rfl), rfl, by decide +kernel, fun h => by cases h⟩
theorem fl_5_9 : gj_fl RX5 9 5 1 1 := ⟨RX5, TX5, 7, tyX5, k_X5, by decide, rfl, (gj_at 204 (by decide +kernel) rfl)⟩
theorem fw_5_9 : gj_fw RX5 9 5 1 1 (.array .int) true := ⟨RX5, TX5, 7, tyX5, k_X5, by decide, rfl, (gj_at 204 (by decide +kernel) rfl), rfl, by decide +kernel, fun _ => rfl⟩
theorem fl_5_15 : gj_fl RX5 15 5 2 2 := ⟨RX5, TX5, 7, tyX5, k_X5, by decide, rfl, (gj_at 205 (by decide +kernel) rfl)⟩
theorem fw_5_15 : gj_fw RX5 15 5 2 2 (.array .int) true := ⟨RX5, TX5, 7, tyX5, k_X5, by decide, rfl, (gj_at 205 (by decide +kernel) rfl), rfl, by decide +kernel, fun _ => rfl⟩
theorem fl_5_18 : gj_fl RX5 18 5 3 3 := ⟨RX5, TX5, 7, tyX5, k_X5, by decide, rfl, (gj_at 206 (by decide +kernel) rfl)⟩
theorem fw_5_18 : gj_fw RX5 18 5 3 3 (.array .int) true := ⟨RX5, TX5, 7, tyX5, k_X5, by decide, rfl, (gj_at 206 (by decide +kernel) rfl), rfl, by decide +kernel, fun _ => rfl⟩
theorem fl_5_21 : gj_fl RX5 21 5 4 4 := ⟨RX5, TX5, 7, tyX5, k_X5, by decide, rfl, (gj_at 207 (by decide +kernel) rfl)⟩
theorem fw_5_21 : gj_fw RX5 21 5 4 4 (.array .int) true := ⟨RX5, TX5, 7, tyX5, k_X5, by decide, rfl, (gj_at 207 (by decide +kernel) rfl), rfl, by decide +kernel, fun _ => rfl⟩
theorem fl_5_24 : gj_fl RX5 24 5 5 5 := ⟨RX5, TX5, 7, tyX5, k_X5, by decide, rfl, (gj_at 208 (by decide +kernel) rfl)⟩
theorem fw_5_24 : gj_fw RX5 24 5 5 5 (.array .int) true := ⟨RX5, TX5, 7, tyX5, k_X5, by decide, rfl, (gj_at 208 (by decide +kernel) rfl), rfl, by decide +kernel, fun _ => rfl⟩
theorem fl_5_27 : gj_fl RX5 27 5 6 6 := ⟨RX5, TX5, 7, tyX5, k_X5, by decide, rfl, (gj_at 209 (by decide +kernel) rfl)⟩
theorem fw_5_27 : gj_fw RX5 27 5 6 6 (.array .int) true := ⟨RX5, TX5, 7, tyX5, k_X5, by decide, rfl, (gj_at 209 (by decide +kernel) rfl), rfl, by decide +kernel, fun _ => rfl⟩
theorem fl_5_30 : gj_fl RX5 30 2 4 4 := ⟨RX2, TX2, 6, tyX2, k_X2, by decide, rfl, (gj_at 99 (by decide +kernel) rfl)⟩
theorem fl_5_41 : gj_fl RX5 41 5 0 0 := ⟨RX5, TX5, 7, tyX5, k_X5, by decide, rfl, (gj_at 203 (by decide +kernel) rfl)⟩
theorem fw_5_41 : gj_fw RX5 41 5 0 0 .int false := ⟨RX5, TX5, 7, tyX5, k_X5, by decide, rfl, (gj_at 203 (by decide +kernel) rfl), rfl, by decide +kernel, fun h => by cases h⟩
theorem fl_5_45 : gj_fl RX5 45 2 5 5 := ⟨RX2, TX2, 6, tyX2, k_X2, by decide, rfl, (gj_at 103 (by decide +kernel) rfl)⟩
theorem fl_6_9 : gj_fl RX6 9 6 1 1 := ⟨RX6, TX6, 4, tyX6, k_X6, by decide, rfl, (gj_at 271 (by decide +kernel) rfl)⟩
theorem fw_6_9 : gj_fw RX6 9 6 1 1 (.array .int) true := ⟨RX6, TX6, 4, tyX6, k_X6, by decide, rfl, (gj_at 271 (by decide +kernel) rfl), rfl, by decide +kernel, fun _ => rfl⟩
theorem fl_6_15 : gj_fl RX6 15 6 2 2 := ⟨RX6, TX6, 4, tyX6, k_X6, by decide, rfl, (gj_at 272 (by decide +kernel) rfl)⟩
theorem fw_6_15 : gj_fw RX6 15 6 2 2 (.array .int) true := ⟨RX6, TX6, 4, tyX6, k_X6, by decide, rfl, (gj_at 272 (by decide +kernel) rfl), rfl, by decide +kernel, fun _ => rfl⟩
theorem fl_6_18 : gj_fl RX6 18 6 3 3 := ⟨RX6, TX6, 4, tyX6, k_X6, by decide, rfl, (gj_at 273 (by decide +kernel) rfl)⟩
theorem fw_6_18 : gj_fw RX6 18 6 3 3 (.array .int) true := ⟨RX6, TX6, 4, tyX6, k_X6, by decide, rfl, (gj_at 273 (by decide +kernel) rfl), rfl, by decide +kernel, fun _ => rfl⟩
theorem fl_6_21 : gj_fl RX6 21 6 0 0 := ⟨RX6, TX6, 4, tyX6, k_X6, by decide, rfl, (gj_at 269 (by decide +kernel) rfl)⟩
theorem fw_6_21 : gj_fw RX6 21 6 0 0 .int false := ⟨RX6, TX6, 4, tyX6, k_X6, by decide, rfl, (gj_at 269 (by decide +kernel) rfl), rfl, by decide +kernel, fun h => by cases h⟩
theorem fl_8_7 : gj_fl RX8 7 8 1 1 := ⟨RX8, TX8, 28, tyX8, k_X8, by decide, rfl, (gj_at 752 (by decide +kernel) rfl)⟩
theorem fw_8_7 : gj_fw RX8 7 8 1 1 (.array .int) true := ⟨RX8, TX8, 28, tyX8, k_X8, by decide, rfl, (gj_at 752 (by decide +kernel) rfl), rfl, by decide +kernel, fun _ => rfl⟩
theorem fl_8_13 : gj_fl RX8 13 8 6 6 := ⟨RX8, TX8, 28, tyX8, k_X8, by decide, rfl, (gj_at 757 (by decide +kernel) rfl)⟩
theorem fw_8_13 : gj_fw RX8 13 8 6 6 (.array .int) true := ⟨RX8, TX8, 28, tyX8, k_X8, by decide, rfl, (gj_at 757 (by decide +kernel) rfl), rfl, by decide +kernel, fun _ => rfl⟩
theorem fl_8_16 : gj_fl RX8 16 8 7 7 := ⟨RX8, TX8, 28, tyX8, k_X8, by decide, rfl, (gj_at 758 (by decide +kernel) rfl)⟩
theorem fw_8_16 : gj_fw RX8 16 8 7 7 (.array .int) true := ⟨RX8, TX8, 28, tyX8, k_X8, by decide, rfl, (gj_at 758 (by decide +kernel) rfl), rfl, by decide +kernel, fun _ => rfl⟩
theorem fl_8_19 : gj_fl RX8 19 8 10 10 := ⟨RX8, TX8, 28, tyX8, k_X8, by decide, rfl, (gj_at 761 (by decide +kernel) rfl)⟩
theorem fw_8_19 : gj_fw RX8 19 8 10 10 (.array .int) true := ⟨RX8, TX8, 28, tyX8, k_X8, by decide, rfl, (gj_at 761 (by decide +kernel) rfl), rfl, by decide +kernel, fun _ => rfl⟩
theorem fl_8_22 : gj_fl RX8 22 8 11 11 := ⟨RX8, TX8, 28, tyX8, k_X8, by decide, rfl, (gj_at 762 (by decide +kernel) rfl)⟩
theorem fw_8_22 : gj_fw RX8 22 8 11 11 (.array .int) true := ⟨RX8, TX8, 28, tyX8, k_X8, by decide, rfl, (gj_at 762 (by decide +kernel) rfl), rfl, by decide +kernel, fun _ => rfl⟩
theorem fl_8_25 : gj_fl RX8 25 8 12 12 := ⟨RX8, TX8, 28, tyX8, k_X8, by decide, rfl, (gj_at 763 (by decide +kernel) rfl)⟩
theorem fw_8_25 : gj_fw RX8 25 8 12 12 (.array .int) true := ⟨RX8, TX8, 28, tyX8, k_X8, by decide, rfl, (gj_at 763 (by decide +kernel) rfl), rfl, by decide +kernel, fun _ => rfl⟩
theorem fl_8_28 : gj_fl RX8 28 8 13 13 := ⟨RX8, TX8, 28, tyX8, k_X8, by decide, rfl, (gj_at 764 (by decide +kernel) rfl)⟩
theorem fw_8_28 : gj_fw RX8 28 8 13 13 (.array .int) true := ⟨RX8, TX8, 28, tyX8, k_X8, by decide, rfl, (gj_at 764 (by decide +kernel) rfl), rfl, by decide +kernel, fun _ => rfl⟩
theorem fl_8_31 : gj_fl RX8 31 8 14 14 := ⟨RX8, TX8, 28, tyX8, k_X8, by decide, rfl, (gj_at 765 (by decide +kernel) rfl)⟩
theorem fw_8_31 : gj_fw RX8 31 8 14 14 (.array .boolean) true := ⟨RX8, TX8, 28, tyX8, k_X8, by decide, rfl, (gj_at 765 (by decide +kernel) rfl), rfl, by decide +kernel, fun _ => rfl⟩
theorem fl_8_35 : gj_fl RX8 35 8 15 15 := ⟨RX8, TX8, 28, tyX8, k_X8, by decide, rfl, (gj_at 766 (by decide +kernel) rfl)⟩
theorem fw_8_35 : gj_fw RX8 35 8 15 15 (.array .int) true := ⟨RX8, TX8, 28, tyX8, k_X8, by decide, rfl, (gj_at 766 (by decide +kernel) rfl), rfl, by decide +kernel, fun _ => rfl⟩
theorem fl_8_38 : gj_fl RX8 38 8 16 16 := ⟨RX8, TX8, 28, tyX8, k_X8, by decide, rfl, (gj_at 767 (by decide +kernel) rfl)⟩
theorem fw_8_38 : gj_fw RX8 38 8 16 16 (.array .int) true := ⟨RX8, TX8, 28, tyX8, k_X8, by decide, rfl, (gj_at 767 (by decide +kernel) rfl), rfl, by decide +kernel, fun _ => rfl⟩
theorem fl_8_41 : gj_fl RX8 41 8 17 17 := ⟨RX8, TX8, 28, tyX8, k_X8, by decide, rfl, (gj_at 768 (by decide +kernel) rfl)⟩
theorem fw_8_41 : gj_fw RX8 41 8 17 17 (.array .int) true := ⟨RX8, TX8, 28, tyX8, k_X8, by decide, rfl, (gj_at 768 (by decide +kernel) rfl), rfl, by decide +kernel, fun _ => rfl⟩
theorem fl_8_44 : gj_fl RX8 44 8 19 19 := ⟨RX8, TX8, 28, tyX8, k_X8, by decide, rfl, (gj_at 770 (by decide +kernel) rfl)⟩
theorem fw_8_44 : gj_fw RX8 44 8 19 19 (.array .int) true := ⟨RX8, TX8, 28, tyX8, k_X8, by decide, rfl, (gj_at 770 (by decide +kernel) rfl), rfl, by decide +kernel, fun _ => rfl⟩
theorem fl_8_47 : gj_fl RX8 47 8 20 20 := ⟨RX8, TX8, 28, tyX8, k_X8, by decide, rfl, (gj_at 771 (by decide +kernel) rfl)⟩
theorem fw_8_47 : gj_fw RX8 47 8 20 20 (.array .boolean) true := ⟨RX8, TX8, 28, tyX8, k_X8, by decide, rfl, (gj_at 771 (by decide +kernel) rfl), rfl, by decide +kernel, fun _ => rfl⟩
theorem fl_8_50 : gj_fl RX8 50 8 22 22 := ⟨RX8, TX8, 28, tyX8, k_X8, by decide, rfl, (gj_at 773 (by decide +kernel) rfl)⟩
theorem fw_8_50 : gj_fw RX8 50 8 22 22 (.array .int) true := ⟨RX8, TX8, 28, tyX8, k_X8, by decide, rfl, (gj_at 773 (by decide +kernel) rfl), rfl, by decide +kernel, fun _ => rfl⟩
theorem fl_8_53 : gj_fl RX8 53 8 23 23 := ⟨RX8, TX8, 28, tyX8, k_X8, by decide, rfl, (gj_at 774 (by decide +kernel) rfl)⟩
theorem fw_8_53 : gj_fw RX8 53 8 23 23 (.array .int) true := ⟨RX8, TX8, 28, tyX8, k_X8, by decide, rfl, (gj_at 774 (by decide +kernel) rfl), rfl, by decide +kernel, fun _ => rfl⟩
theorem fl_8_56 : gj_fl RX8 56 8 24 24 := ⟨RX8, TX8, 28, tyX8, k_X8, by decide, rfl, (gj_at 775 (by decide +kernel) rfl)⟩
theorem fw_8_56 : gj_fw RX8 56 8 24 24 (.array .int) true := ⟨RX8, TX8, 28, tyX8, k_X8, by decide, rfl, (gj_at 775 (by decide +kernel) rfl), rfl, by decide +kernel, fun _ => rfl⟩
theorem fl_8_59 : gj_fl RX8 59 8 26 26 := ⟨RX8, TX8, 28, tyX8, k_X8, by decide, rfl, (gj_at 777 (by decide +kernel) rfl)⟩
theorem fw_8_59 : gj_fw RX8 59 8 26 26 (.array .int) true := ⟨RX8, TX8, 28, tyX8, k_X8, by decide, rfl, (gj_at 777 (by decide +kernel) rfl), rfl, by decide +kernel, fun _ => rfl⟩
theorem fl_8_62 : gj_fl RX8 62 8 27 27 := ⟨RX8, TX8, 28, tyX8, k_X8, by decide, rfl, (gj_at 778 (by decide +kernel) rfl)⟩
theorem fw_8_62 : gj_fw RX8 62 8 27 27 (.array .int) true := ⟨RX8, TX8, 28, tyX8, k_X8, by decide, rfl, (gj_at 778 (by decide +kernel) rfl), rfl, by decide +kernel, fun _ => rfl⟩
theorem fw_8_69 : gj_fw RX8 69 8 0 0 .int false := ⟨RX8, TX8, 28, tyX8, k_X8, by decide, rfl, (gj_at 751 (by decide +kernel) rfl), rfl, by decide +kernel, fun h => by cases h⟩
theorem fl_8_73 : gj_fl RX8 73 8 5 5 := ⟨RX8, TX8, 28, tyX8, k_X8, by decide, rfl, (gj_at 756 (by decide +kernel) rfl)⟩
theorem fw_8_73 : gj_fw RX8 73 8 5 5 .int false := ⟨RX8, TX8, 28, tyX8, k_X8, by decide, rfl, (gj_at 756 (by decide +kernel) rfl), rfl, by decide +kernel, fun h => by cases h⟩
theorem fl_8_80 : gj_fl RX8 80 8 4 4 := ⟨RX8, TX8, 28, tyX8, k_X8, by decide, rfl, (gj_at 755 (by decide +kernel) rfl)⟩
theorem fw_8_80 : gj_fw RX8 80 8 4 4 .int false := ⟨RX8, TX8, 28, tyX8, k_X8, by decide, rfl, (gj_at 755 (by decide +kernel) rfl), rfl, by decide +kernel, fun h => by cases h⟩
theorem fl_8_87 : gj_fl RX8 87 8 2 2 := ⟨RX8, TX8, 28, tyX8, k_X8, by decide, rfl, (gj_at 753 (by decide +kernel) rfl)⟩
theorem fw_8_87 : gj_fw RX8 87 8 2 2 .int false := ⟨RX8, TX8, 28, tyX8, k_X8, by decide, rfl, (gj_at 753 (by decide +kernel) rfl), rfl, by decide +kernel, fun h => by cases h⟩
theorem fl_8_90 : gj_fl RX8 90 8 3 3 := ⟨RX8, TX8, 28, tyX8, k_X8, by decide, rfl, (gj_at 754 (by decide +kernel) rfl)⟩
theorem fw_8_90 : gj_fw RX8 90 8 3 3 .int false := ⟨RX8, TX8, 28, tyX8, k_X8, by decide, rfl, (gj_at 754 (by decide +kernel) rfl), rfl, by decide +kernel, fun h => by cases h⟩
theorem fl_8_93 : gj_fl RX8 93 8 8 8 := ⟨RX8, TX8, 28, tyX8, k_X8, by decide, rfl, (gj_at 759 (by decide +kernel) rfl)⟩
theorem fw_8_93 : gj_fw RX8 93 8 8 8 .int false := ⟨RX8, TX8, 28, tyX8, k_X8, by decide, rfl, (gj_at 759 (by decide +kernel) rfl), rfl, by decide +kernel, fun h => by cases h⟩
theorem fl_8_100 : gj_fl RX8 100 8 9 9 := ⟨RX8, TX8, 28, tyX8, k_X8, by decide, rfl, (gj_at 760 (by decide +kernel) rfl)⟩
theorem fw_8_100 : gj_fw RX8 100 8 9 9 .int false := ⟨RX8, TX8, 28, tyX8, k_X8, by decide, rfl, (gj_at 760 (by decide +kernel) rfl), rfl, by decide +kernel, fun h => by cases h⟩
theorem fl_8_121 : gj_fl RX8 121 8 18 18 := ⟨RX8, TX8, 28, tyX8, k_X8, by decide, rfl, (gj_at 769 (by decide +kernel) rfl)⟩
theorem fw_8_121 : gj_fw RX8 121 8 18 18 .int false := ⟨RX8, TX8, 28, tyX8, k_X8, by decide, rfl, (gj_at 769 (by decide +kernel) rfl), rfl, by decide +kernel, fun h => by cases h⟩
theorem fl_8_219 : gj_fl RX8 219 8 21 21 := ⟨RX8, TX8, 28, tyX8, k_X8, by decide, rfl, (gj_at 772 (by decide +kernel) rfl)⟩
theorem fw_8_219 : gj_fw RX8 219 8 21 21 .int false := ⟨RX8, TX8, 28, tyX8, k_X8, by decide, rfl, (gj_at 772 (by decide +kernel) rfl), rfl, by decide +kernel, fun h => by cases h⟩
theorem fl_8_240 : gj_fl RX8 240 8 25 25 := ⟨RX8, TX8, 28, tyX8, k_X8, by decide, rfl, (gj_at 776 (by decide +kernel) rfl)⟩
theorem fw_8_240 : gj_fw RX8 240 8 25 25 .long false := ⟨RX8, TX8, 28, tyX8, k_X8, by decide, rfl, (gj_at 776 (by decide +kernel) rfl), rfl, by decide +kernel, fun h => by cases h⟩
theorem lc_7_206 : Cond.constantLong RX7 206 (Int64.ofInt 10000) ∈ gj_tb := (gj_at 642 (by decide +kernel) rfl)
theorem lc_7_240 : Cond.constantLong RX7 240 (Int64.ofInt 6364136223846793005) ∈ gj_tb := (gj_at 724 (by decide +kernel) rfl)
theorem lc_7_242 : Cond.constantLong RX7 242 (Int64.ofInt 1442695040888963407) ∈ gj_tb := (gj_at 725 (by decide +kernel) rfl)
theorem lc_L_86 : Cond.constantLong RL 86 (Int64.ofInt 4294967295) ∈ gj_tb := (gj_at 1092 (by decide +kernel) rfl)
theorem lc_8_83 : Cond.constantLong RX8 83 (Int64.ofInt 47) ∈ gj_tb := (gj_at 935 (by decide +kernel) rfl)
theorem lc_8_85 : Cond.constantLong RX8 85 (Int64.ofInt 255) ∈ gj_tb := (gj_at 840 (by decide +kernel) rfl)
theorem lc_8_186 : Cond.constantLong RX8 186 (Int64.ofInt 9) ∈ gj_tb := (gj_at 943 (by decide +kernel) rfl)
theorem lc_8_188 : Cond.constantLong RX8 188 (Int64.ofInt 5) ∈ gj_tb := (gj_at 944 (by decide +kernel) rfl)
theorem lc_8_193 : Cond.constantLong RX8 193 (Int64.ofInt (-9)) ∈ gj_tb := (gj_at 957 (by decide +kernel) rfl)
theorem lc_8_195 : Cond.constantLong RX8 195 (Int64.ofInt (-3)) ∈ gj_tb := (gj_at 958 (by decide +kernel) rfl)
theorem lc_8_197 : Cond.constantLong RX8 197 (Int64.ofInt 3) ∈ gj_tb := (gj_at 959 (by decide +kernel) rfl)
theorem lc_8_205 : Cond.constantLong RX8 205 (Int64.ofInt 4) ∈ gj_tb := (gj_at 1022 (by decide +kernel) rfl)
theorem lc_8_207 : Cond.constantLong RX8 207 (Int64.ofInt 10000) ∈ gj_tb := (gj_at 1023 (by decide +kernel) rfl)
theorem lc_8_217 : Cond.constantLong RX8 217 (Int64.ofInt 39) ∈ gj_tb := (gj_at 1035 (by decide +kernel) rfl)
theorem lc_8_238 : Cond.constantLong RX8 238 (Int64.ofInt 10) ∈ gj_tb := (gj_at 1068 (by decide +kernel) rfl)
theorem lc_8_244 : Cond.constantLong RX8 244 (Int64.ofInt 40) ∈ gj_tb := (gj_at 1077 (by decide +kernel) rfl)
theorem lc_8_246 : Cond.constantLong RX8 246 (Int64.ofInt 6364136223846793005) ∈ gj_tb := (gj_at 1078 (by decide +kernel) rfl)
theorem lc_8_248 : Cond.constantLong RX8 248 (Int64.ofInt 1442695040888963407) ∈ gj_tb := (gj_at 1079 (by decide +kernel) rfl)
theorem cl_7_13 : Cond.classLink RX7 13 RX1 ∈ gj_tb := (gj_at 74 (by decide +kernel) rfl)
theorem cl_7_20 : Cond.classLink RX7 20 RX3 ∈ gj_tb := (gj_at 139 (by decide +kernel) rfl)
theorem cl_7_41 : Cond.classLink RX7 41 RX0 ∈ gj_tb := (gj_at 249 (by decide +kernel) rfl)
theorem cl_7_48 : Cond.classLink RX7 48 RX6 ∈ gj_tb := (gj_at 263 (by decide +kernel) rfl)
theorem cl_7_55 : Cond.classLink RX7 55 RX4 ∈ gj_tb := (gj_at 283 (by decide +kernel) rfl)
theorem cl_1_9 : Cond.classLink RX1 9 RX2 ∈ gj_tb := (gj_at 80 (by decide +kernel) rfl)
theorem cl_3_9 : Cond.classLink RX3 9 RX2 ∈ gj_tb := (gj_at 145 (by decide +kernel) rfl)
theorem cl_3_18 : Cond.classLink RX3 18 RX4 ∈ gj_tb := (gj_at 147 (by decide +kernel) rfl)
theorem cl_3_25 : Cond.classLink RX3 25 RX5 ∈ gj_tb := (gj_at 197 (by decide +kernel) rfl)
theorem cl_L_7 : Cond.classLink RL 7 RX7 ∈ gj_tb := (gj_at 66 (by decide +kernel) rfl)
theorem cl_L_10 : Cond.classLink RL 10 RX8 ∈ gj_tb := (gj_at 742 (by decide +kernel) rfl)
theorem ci_7 : Cond.instantiable RX7 13 ∈ gj_tb ∧ Cond.initialized RX7 ∈ gj_tb := ⟨(gj_at 67 (by decide +kernel) rfl), (gj_at 55 (by decide +kernel) rfl)⟩
theorem ci_0 : Cond.instantiable RX0 2 ∈ gj_tb ∧ Cond.initialized RX0 ∈ gj_tb := ⟨(gj_at 250 (by decide +kernel) rfl), (gj_at 61 (by decide +kernel) rfl)⟩
theorem ci_1 : Cond.instantiable RX1 6 ∈ gj_tb ∧ Cond.initialized RX1 ∈ gj_tb := ⟨(gj_at 75 (by decide +kernel) rfl), (gj_at 56 (by decide +kernel) rfl)⟩
theorem ci_2 : Cond.instantiable RX2 6 ∈ gj_tb ∧ Cond.initialized RX2 ∈ gj_tb := ⟨(gj_at 81 (by decide +kernel) rfl), (gj_at 57 (by decide +kernel) rfl)⟩
theorem ci_3 : Cond.instantiable RX3 7 ∈ gj_tb ∧ Cond.initialized RX3 ∈ gj_tb := ⟨(gj_at 140 (by decide +kernel) rfl), (gj_at 58 (by decide +kernel) rfl)⟩
theorem ci_4 : Cond.instantiable RX4 9 ∈ gj_tb ∧ Cond.initialized RX4 ∈ gj_tb := ⟨(gj_at 148 (by decide +kernel) rfl), (gj_at 59 (by decide +kernel) rfl)⟩
theorem ci_5 : Cond.instantiable RX5 7 ∈ gj_tb ∧ Cond.initialized RX5 ∈ gj_tb := ⟨(gj_at 198 (by decide +kernel) rfl), (gj_at 60 (by decide +kernel) rfl)⟩
theorem ci_6 : Cond.instantiable RX6 4 ∈ gj_tb ∧ Cond.initialized RX6 ∈ gj_tb := ⟨(gj_at 264 (by decide +kernel) rfl), (gj_at 62 (by decide +kernel) rfl)⟩
theorem ci_8 : Cond.instantiable RX8 28 ∈ gj_tb ∧ Cond.initialized RX8 ∈ gj_tb := ⟨(gj_at 743 (by decide +kernel) rfl), (gj_at 63 (by decide +kernel) rfl)⟩
theorem tn_3_54 : Cond.fieldLinkNest RX3 54 "CelSheets" "TENS" "[I" "CelSheets" ∈ gj_nb := (gj_an 561 (by decide +kernel) rfl)
/-- what there is behind the two constructors -/
def gS : List gj_H := [.inl (7, [4, 0, 5, 12, 13, 18, 38, 40, 44, 53, 62, 71, 1]), .inr (false, 80), .inl (1, [6, 0, 0, 0, 0, 11]), .inl (2, [0, 0, 7, 8, 9, 10]), .inr (false, 6), .inr (false, 6), .inr (false, 4), .inr (false, 192), .inr (false, 2), .inl (3, [13, 18, 27, 34, 35, 36, 37]), .inl (2, [0, 0, 14, 15, 16, 17]), .inr (false, 6), .inr (false, 6), .inr (false, 4), .inr (false, 192), .inl (4, [19, 20, 21, 22, 23, 24, 0, 25, 26]), .inr (false, 6), .inr (false, 6), .inr (false, 4), .inr (false, 5), .inr (false, 5), .inr (false, 5), .inr (false, 4), .inr (false, 4), .inl (5, [0, 28, 29, 30, 31, 32, 33]), .inr (false, 48), .inr (false, 49), .inr (false, 49), .inr (false, 49), .inr (false, 2401), .inr (false, 49), .inr (false, 4), .inr (false, 10), .inr (false, 6), .inr (false, 6), .inl (0, [0, 39]), .inr (false, 70), .inl (6, [0, 41, 42, 43]), .inr (false, 6), .inr (false, 6), .inr (false, 6), .inl (4, [45, 46, 47, 48, 49, 50, 0, 51, 52]), .inr (false, 6), .inr (false, 6), .inr (false, 4), .inr (false, 5), .inr (false, 5), .inr (false, 5), .inr (false, 4), .inr (false, 4), .inl (4, [54, 55, 56, 57, 58, 59, 0, 60, 61]), .inr (false, 6), .inr (false, 6), .inr (false, 4), .inr (false, 5), .inr (false, 5), .inr (false, 5), .inr (false, 4), .inr (false, 4), .inl (4, [63, 64, 65, 66, 67, 68, 0, 69, 70]), .inr (false, 6), .inr (false, 6), .inr (false, 4), .inr (false, 5), .inr (false, 5), .inr (false, 5), .inr (false, 4), .inr (false, 4), .inr (true, 2), .inl (8, [0, 73, 0, 0, 0, 0, 74, 75, 0, 0, 76, 77, 78, 79, 80, 81, 82, 83, 0, 84, 85, 0, 86, 87, 88, 1, 89, 90]), .inr (false, 80), .inr (false, 192), .inr (false, 4), .inr (false, 192), .inr (false, 4), .inr (false, 40), .inr (false, 3), .inr (true, 3), .inr (false, 40), .inr (false, 40), .inr (false, 560), .inr (false, 80), .inr (true, 2), .inr (false, 6), .inr (false, 6), .inr (false, 6), .inr (false, 2401), .inr (false, 7203)]

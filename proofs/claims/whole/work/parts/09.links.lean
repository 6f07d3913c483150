set_option maxRecDepth 20000 in
theorem uX0 : ∀ w ∈ u_ws RX0 TX0 2, w ∈ TBg := by decide +kernel
set_option maxRecDepth 20000 in
theorem uX1 : ∀ w ∈ u_ws RX1 TX1 7, w ∈ TBg := by decide +kernel
set_option maxRecDepth 20000 in
theorem uX2 : ∀ w ∈ u_ws RX2 TX2 9, w ∈ TBg := by decide +kernel
set_option maxRecDepth 20000 in
theorem uX3 : ∀ w ∈ u_ws RX3 TX3 4, w ∈ TBg := by decide +kernel
set_option maxRecDepth 20000 in
theorem uX4 : ∀ w ∈ u_ws RX4 TX4 2, w ∈ TBg := by decide +kernel
set_option maxRecDepth 20000 in
theorem uX5 : ∀ w ∈ u_ws RX5 TX5 3, w ∈ TBg := by decide +kernel
set_option maxRecDepth 20000 in
theorem uX6 : ∀ w ∈ u_ws RX6 TX6 13, w ∈ TBg := by decide +kernel
abbrev mX0_init : MI := (yX0_init, cX0_init, 2, none)
set_option maxRecDepth 20000 in
theorem fX0_init : MFI mX0_init 0 := ⟨rfl, rfl, (tb_in 194 (by decide +kernel) rfl), (tb_in 87 (by decide +kernel) rfl), (tb_in 195 (by decide +kernel) rfl), ⟨by decide +kernel, by decide +kernel, by decide +kernel⟩⟩
abbrev mX0_size : MI := (yX0_size, cX0_size, 1, (some .int))
set_option maxRecDepth 20000 in
theorem fX0_size : MFV mX0_size 0 0 := ⟨(tb_in 362 (by decide +kernel) rfl), (tb_in 363 (by decide +kernel) rfl), (tb_in 87 (by decide +kernel) rfl), (tb_in 364 (by decide +kernel) rfl), rfl, ⟨by decide +kernel, by decide +kernel, by decide +kernel⟩⟩
abbrev mX0_save : MI := (yX0_save, cX0_save, 3, none)
set_option maxRecDepth 20000 in
theorem fX0_save : MFV mX0_save 0 1 := ⟨(tb_in 607 (by decide +kernel) rfl), (tb_in 608 (by decide +kernel) rfl), (tb_in 87 (by decide +kernel) rfl), (tb_in 609 (by decide +kernel) rfl), rfl, ⟨by decide +kernel, by decide +kernel, by decide +kernel⟩⟩
abbrev mX0_restore : MI := (yX0_restore, cX0_restore, 3, (some .int))
set_option maxRecDepth 20000 in
theorem fX0_restore : MFV mX0_restore 0 1 := ⟨(tb_in 934 (by decide +kernel) rfl), (tb_in 935 (by decide +kernel) rfl), (tb_in 87 (by decide +kernel) rfl), (tb_in 936 (by decide +kernel) rfl), rfl, ⟨by decide +kernel, by decide +kernel, by decide +kernel⟩⟩
abbrev mX0_slotAt : MI := (yX0_slotAt, cX0_slotAt, 2, (some (.object "ShapedRows$State")))
set_option maxRecDepth 20000 in
theorem fX0_slotAt : MFV mX0_slotAt 0 1 := ⟨(tb_in 616 (by decide +kernel) rfl), (tb_in 15 (by decide +kernel) rfl), (tb_in 87 (by decide +kernel) rfl), (tb_in 617 (by decide +kernel) rfl), rfl, ⟨by decide +kernel, by decide +kernel, by decide +kernel⟩⟩
abbrev mX0_dropOldest : MI := (yX0_dropOldest, cX0_dropOldest, 3, none)
set_option maxRecDepth 20000 in
theorem fX0_dropOldest : MFV mX0_dropOldest 0 0 := ⟨(tb_in 612 (by decide +kernel) rfl), (tb_in 14 (by decide +kernel) rfl), (tb_in 87 (by decide +kernel) rfl), (tb_in 613 (by decide +kernel) rfl), rfl, ⟨by decide +kernel, by decide +kernel, by decide +kernel⟩⟩
abbrev mX1_init : MI := (yX1_init, cX1_init, 1, none)
set_option maxRecDepth 20000 in
theorem fX1_init : MFI mX1_init 0 := ⟨rfl, rfl, (tb_in 151 (by decide +kernel) rfl), (tb_in 86 (by decide +kernel) rfl), (tb_in 152 (by decide +kernel) rfl), ⟨by decide +kernel, by decide +kernel, by decide +kernel⟩⟩
abbrev mX1_size : MI := (yX1_size, cX1_size, 1, (some .int))
set_option maxRecDepth 20000 in
theorem fX1_size : MFV mX1_size 1 0 := ⟨(tb_in 277 (by decide +kernel) rfl), (tb_in 278 (by decide +kernel) rfl), (tb_in 86 (by decide +kernel) rfl), (tb_in 279 (by decide +kernel) rfl), rfl, ⟨by decide +kernel, by decide +kernel, by decide +kernel⟩⟩
abbrev mX1_cursor : MI := (yX1_cursor, cX1_cursor, 1, (some .int))
set_option maxRecDepth 20000 in
theorem fX1_cursor : MFV mX1_cursor 1 0 := ⟨(tb_in 332 (by decide +kernel) rfl), (tb_in 333 (by decide +kernel) rfl), (tb_in 86 (by decide +kernel) rfl), (tb_in 334 (by decide +kernel) rfl), rfl, ⟨by decide +kernel, by decide +kernel, by decide +kernel⟩⟩
abbrev mX1_rewritten : MI := (yX1_rewritten, cX1_rewritten, 1, (some .int))
set_option maxRecDepth 20000 in
theorem fX1_rewritten : MFV mX1_rewritten 1 0 := ⟨(tb_in 336 (by decide +kernel) rfl), (tb_in 337 (by decide +kernel) rfl), (tb_in 86 (by decide +kernel) rfl), (tb_in 338 (by decide +kernel) rfl), rfl, ⟨by decide +kernel, by decide +kernel, by decide +kernel⟩⟩
abbrev mX1_writes : MI := (yX1_writes, cX1_writes, 1, (some .int))
set_option maxRecDepth 20000 in
theorem fX1_writes : MFV mX1_writes 1 0 := ⟨(tb_in 340 (by decide +kernel) rfl), (tb_in 341 (by decide +kernel) rfl), (tb_in 86 (by decide +kernel) rfl), (tb_in 342 (by decide +kernel) rfl), rfl, ⟨by decide +kernel, by decide +kernel, by decide +kernel⟩⟩
abbrev mX1_isThere : MI := (yX1_isThere, cX1_isThere, 2, (some .boolean))
set_option maxRecDepth 20000 in
theorem fX1_isThere : MFV mX1_isThere 1 1 := ⟨(tb_in 285 (by decide +kernel) rfl), (tb_in 286 (by decide +kernel) rfl), (tb_in 86 (by decide +kernel) rfl), (tb_in 287 (by decide +kernel) rfl), rfl, ⟨by decide +kernel, by decide +kernel, by decide +kernel⟩⟩
abbrev mX1_isFull : MI := (yX1_isFull, cX1_isFull, 1, (some .boolean))
set_option maxRecDepth 20000 in
theorem fX1_isFull : MFV mX1_isFull 1 0 := ⟨(tb_in 715 (by decide +kernel) rfl), (tb_in 716 (by decide +kernel) rfl), (tb_in 86 (by decide +kernel) rfl), (tb_in 717 (by decide +kernel) rfl), rfl, ⟨by decide +kernel, by decide +kernel, by decide +kernel⟩⟩
abbrev mX1_shapeOf : MI := (yX1_shapeOf, cX1_shapeOf, 2, (some .int))
set_option maxRecDepth 20000 in
theorem fX1_shapeOf : MFV mX1_shapeOf 1 1 := ⟨(tb_in 293 (by decide +kernel) rfl), (tb_in 294 (by decide +kernel) rfl), (tb_in 86 (by decide +kernel) rfl), (tb_in 295 (by decide +kernel) rfl), rfl, ⟨by decide +kernel, by decide +kernel, by decide +kernel⟩⟩
abbrev mX1_rewritesOf : MI := (yX1_rewritesOf, cX1_rewritesOf, 2, (some .int))
set_option maxRecDepth 20000 in
theorem fX1_rewritesOf : MFV mX1_rewritesOf 1 1 := ⟨(tb_in 425 (by decide +kernel) rfl), (tb_in 426 (by decide +kernel) rfl), (tb_in 86 (by decide +kernel) rfl), (tb_in 427 (by decide +kernel) rfl), rfl, ⟨by decide +kernel, by decide +kernel, by decide +kernel⟩⟩
abbrev mX1_value : MI := (yX1_value, cX1_value, 3, (some .int))
set_option maxRecDepth 20000 in
theorem fX1_value : MFV mX1_value 1 2 := ⟨(tb_in 463 (by decide +kernel) rfl), (tb_in 464 (by decide +kernel) rfl), (tb_in 86 (by decide +kernel) rfl), (tb_in 465 (by decide +kernel) rfl), rfl, ⟨by decide +kernel, by decide +kernel, by decide +kernel⟩⟩
abbrev mX1_addRow : MI := (yX1_addRow, cX1_addRow, 4, (some .int))
set_option maxRecDepth 20000 in
theorem fX1_addRow : MFV mX1_addRow 1 1 := ⟨(tb_in 720 (by decide +kernel) rfl), (tb_in 721 (by decide +kernel) rfl), (tb_in 86 (by decide +kernel) rfl), (tb_in 722 (by decide +kernel) rfl), rfl, ⟨by decide +kernel, by decide +kernel, by decide +kernel⟩⟩
abbrev mX1_takeOut : MI := (yX1_takeOut, cX1_takeOut, 3, (some .int))
set_option maxRecDepth 20000 in
theorem fX1_takeOut : MFV mX1_takeOut 1 1 := ⟨(tb_in 801 (by decide +kernel) rfl), (tb_in 802 (by decide +kernel) rfl), (tb_in 86 (by decide +kernel) rfl), (tb_in 803 (by decide +kernel) rfl), rfl, ⟨by decide +kernel, by decide +kernel, by decide +kernel⟩⟩
abbrev mX1_overwrite : MI := (yX1_overwrite, cX1_overwrite, 4, none)
set_option maxRecDepth 20000 in
theorem fX1_overwrite : MFV mX1_overwrite 1 3 := ⟨(tb_in 789 (by decide +kernel) rfl), (tb_in 790 (by decide +kernel) rfl), (tb_in 86 (by decide +kernel) rfl), (tb_in 791 (by decide +kernel) rfl), rfl, ⟨by decide +kernel, by decide +kernel, by decide +kernel⟩⟩
abbrev mX1_rewrite : MI := (yX1_rewrite, cX1_rewrite, 5, none)
set_option maxRecDepth 20000 in
theorem fX1_rewrite : MFV mX1_rewrite 1 3 := ⟨(tb_in 784 (by decide +kernel) rfl), (tb_in 785 (by decide +kernel) rfl), (tb_in 86 (by decide +kernel) rfl), (tb_in 786 (by decide +kernel) rfl), rfl, ⟨by decide +kernel, by decide +kernel, by decide +kernel⟩⟩
abbrev mX1_nextRow : MI := (yX1_nextRow, cX1_nextRow, 1, (some .int))
set_option maxRecDepth 20000 in
theorem fX1_nextRow : MFV mX1_nextRow 1 0 := ⟨(tb_in 281 (by decide +kernel) rfl), (tb_in 282 (by decide +kernel) rfl), (tb_in 86 (by decide +kernel) rfl), (tb_in 283 (by decide +kernel) rfl), rfl, ⟨by decide +kernel, by decide +kernel, by decide +kernel⟩⟩
abbrev mX1_setCursor : MI := (yX1_setCursor, cX1_setCursor, 2, none)
set_option maxRecDepth 20000 in
theorem fX1_setCursor : MFV mX1_setCursor 1 1 := ⟨(tb_in 828 (by decide +kernel) rfl), (tb_in 829 (by decide +kernel) rfl), (tb_in 86 (by decide +kernel) rfl), (tb_in 830 (by decide +kernel) rfl), rfl, ⟨by decide +kernel, by decide +kernel, by decide +kernel⟩⟩
abbrev mX1_copyValues : MI := (yX1_copyValues, cX1_copyValues, 4, none)
set_option maxRecDepth 20000 in
theorem fX1_copyValues : MFV mX1_copyValues 1 2 := ⟨(tb_in 437 (by decide +kernel) rfl), (tb_in 438 (by decide +kernel) rfl), (tb_in 86 (by decide +kernel) rfl), (tb_in 439 (by decide +kernel) rfl), rfl, ⟨by decide +kernel, by decide +kernel, by decide +kernel⟩⟩
abbrev mX1_takeFrom : MI := (yX1_takeFrom, cX1_takeFrom, 2, none)
set_option maxRecDepth 20000 in
theorem fX1_takeFrom : MFV mX1_takeFrom 1 1 := ⟨(tb_in 634 (by decide +kernel) rfl), (tb_in 635 (by decide +kernel) rfl), (tb_in 86 (by decide +kernel) rfl), (tb_in 636 (by decide +kernel) rfl), rfl, ⟨by decide +kernel, by decide +kernel, by decide +kernel⟩⟩
abbrev mX1_moveDown : MI := (yX1_moveDown, cX1_moveDown, 3, none)
set_option maxRecDepth 20000 in
theorem fX1_moveDown : MFV mX1_moveDown 1 1 := ⟨(tb_in 806 (by decide +kernel) rfl), (tb_in 19 (by decide +kernel) rfl), (tb_in 86 (by decide +kernel) rfl), (tb_in 807 (by decide +kernel) rfl), rfl, ⟨by decide +kernel, by decide +kernel, by decide +kernel⟩⟩
abbrev mX2_init : MI := (yX2_init, cX2_init, 1, none)
set_option maxRecDepth 20000 in
theorem fX2_init : MFI mX2_init 0 := ⟨rfl, rfl, (tb_in 116 (by decide +kernel) rfl), (tb_in 85 (by decide +kernel) rfl), (tb_in 117 (by decide +kernel) rfl), ⟨by decide +kernel, by decide +kernel, by decide +kernel⟩⟩
abbrev mX2_size : MI := (yX2_size, cX2_size, 1, (some .int))
set_option maxRecDepth 20000 in
theorem fX2_size : MFV mX2_size 2 0 := ⟨(tb_in 324 (by decide +kernel) rfl), (tb_in 325 (by decide +kernel) rfl), (tb_in 85 (by decide +kernel) rfl), (tb_in 326 (by decide +kernel) rfl), rfl, ⟨by decide +kernel, by decide +kernel, by decide +kernel⟩⟩
abbrev mX2_mark : MI := (yX2_mark, cX2_mark, 1, (some .int))
set_option maxRecDepth 20000 in
theorem fX2_mark : MFV mX2_mark 2 0 := ⟨(tb_in 328 (by decide +kernel) rfl), (tb_in 329 (by decide +kernel) rfl), (tb_in 85 (by decide +kernel) rfl), (tb_in 330 (by decide +kernel) rfl), rfl, ⟨by decide +kernel, by decide +kernel, by decide +kernel⟩⟩
abbrev mX2_newest : MI := (yX2_newest, cX2_newest, 1, (some .int))
set_option maxRecDepth 20000 in
theorem fX2_newest : MFV mX2_newest 2 0 := ⟨(tb_in 298 (by decide +kernel) rfl), (tb_in 299 (by decide +kernel) rfl), (tb_in 85 (by decide +kernel) rfl), (tb_in 300 (by decide +kernel) rfl), rfl, ⟨by decide +kernel, by decide +kernel, by decide +kernel⟩⟩
abbrev mX2_isThere : MI := (yX2_isThere, cX2_isThere, 2, (some .boolean))
set_option maxRecDepth 20000 in
theorem fX2_isThere : MFV mX2_isThere 2 1 := ⟨(tb_in 736 (by decide +kernel) rfl), (tb_in 737 (by decide +kernel) rfl), (tb_in 85 (by decide +kernel) rfl), (tb_in 738 (by decide +kernel) rfl), rfl, ⟨by decide +kernel, by decide +kernel, by decide +kernel⟩⟩
abbrev mX2_isRetired : MI := (yX2_isRetired, cX2_isRetired, 2, (some .boolean))
set_option maxRecDepth 20000 in
theorem fX2_isRetired : MFV mX2_isRetired 2 1 := ⟨(tb_in 387 (by decide +kernel) rfl), (tb_in 388 (by decide +kernel) rfl), (tb_in 85 (by decide +kernel) rfl), (tb_in 389 (by decide +kernel) rfl), rfl, ⟨by decide +kernel, by decide +kernel, by decide +kernel⟩⟩
abbrev mX2_isUsable : MI := (yX2_isUsable, cX2_isUsable, 2, (some .boolean))
set_option maxRecDepth 20000 in
theorem fX2_isUsable : MFV mX2_isUsable 2 1 := ⟨(tb_in 732 (by decide +kernel) rfl), (tb_in 733 (by decide +kernel) rfl), (tb_in 85 (by decide +kernel) rfl), (tb_in 734 (by decide +kernel) rfl), rfl, ⟨by decide +kernel, by decide +kernel, by decide +kernel⟩⟩
abbrev mX2_width : MI := (yX2_width, cX2_width, 2, (some .int))
set_option maxRecDepth 20000 in
theorem fX2_width : MFV mX2_width 2 1 := ⟨(tb_in 345 (by decide +kernel) rfl), (tb_in 346 (by decide +kernel) rfl), (tb_in 85 (by decide +kernel) rfl), (tb_in 347 (by decide +kernel) rfl), rfl, ⟨by decide +kernel, by decide +kernel, by decide +kernel⟩⟩
abbrev mX2_changeOf : MI := (yX2_changeOf, cX2_changeOf, 2, (some .int))
set_option maxRecDepth 20000 in
theorem fX2_changeOf : MFV mX2_changeOf 2 1 := ⟨(tb_in 379 (by decide +kernel) rfl), (tb_in 380 (by decide +kernel) rfl), (tb_in 85 (by decide +kernel) rfl), (tb_in 381 (by decide +kernel) rfl), rfl, ⟨by decide +kernel, by decide +kernel, by decide +kernel⟩⟩
abbrev mX2_columnAt : MI := (yX2_columnAt, cX2_columnAt, 3, (some .int))
set_option maxRecDepth 20000 in
theorem fX2_columnAt : MFV mX2_columnAt 2 2 := ⟨(tb_in 408 (by decide +kernel) rfl), (tb_in 409 (by decide +kernel) rfl), (tb_in 85 (by decide +kernel) rfl), (tb_in 410 (by decide +kernel) rfl), rfl, ⟨by decide +kernel, by decide +kernel, by decide +kernel⟩⟩
abbrev mX2_columnOfLetter : MI := (yX2_columnOfLetter, cX2_columnOfLetter, 4, (some .int))
set_option maxRecDepth 20000 in
theorem fX2_columnOfLetter : MFV mX2_columnOfLetter 2 2 := ⟨(tb_in 476 (by decide +kernel) rfl), (tb_in 477 (by decide +kernel) rfl), (tb_in 85 (by decide +kernel) rfl), (tb_in 478 (by decide +kernel) rfl), rfl, ⟨by decide +kernel, by decide +kernel, by decide +kernel⟩⟩
abbrev mX2_hasColumn : MI := (yX2_hasColumn, cX2_hasColumn, 3, (some .boolean))
set_option maxRecDepth 20000 in
theorem fX2_hasColumn : MFV mX2_hasColumn 2 2 := ⟨(tb_in 775 (by decide +kernel) rfl), (tb_in 776 (by decide +kernel) rfl), (tb_in 85 (by decide +kernel) rfl), (tb_in 777 (by decide +kernel) rfl), rfl, ⟨by decide +kernel, by decide +kernel, by decide +kernel⟩⟩
abbrev mX2_letterMask : MI := (yX2_letterMask, cX2_letterMask, 4, (some .int))
set_option maxRecDepth 20000 in
theorem fX2_letterMask : MFV mX2_letterMask 2 1 := ⟨(tb_in 391 (by decide +kernel) rfl), (tb_in 392 (by decide +kernel) rfl), (tb_in 85 (by decide +kernel) rfl), (tb_in 393 (by decide +kernel) rfl), rfl, ⟨by decide +kernel, by decide +kernel, by decide +kernel⟩⟩
abbrev mX2_columnProperty : MI := (yX2_columnProperty, cX2_columnProperty, 4, (some .int))
set_option maxRecDepth 20000 in
theorem fX2_columnProperty : MFV mX2_columnProperty 2 3 := ⟨(tb_in 399 (by decide +kernel) rfl), (tb_in 400 (by decide +kernel) rfl), (tb_in 85 (by decide +kernel) rfl), (tb_in 401 (by decide +kernel) rfl), rfl, ⟨by decide +kernel, by decide +kernel, by decide +kernel⟩⟩
abbrev mX2_canAdd : MI := (yX2_canAdd, cX2_canAdd, 2, (some .boolean))
set_option maxRecDepth 20000 in
theorem fX2_canAdd : MFV mX2_canAdd 2 1 := ⟨(tb_in 579 (by decide +kernel) rfl), (tb_in 580 (by decide +kernel) rfl), (tb_in 85 (by decide +kernel) rfl), (tb_in 581 (by decide +kernel) rfl), rfl, ⟨by decide +kernel, by decide +kernel, by decide +kernel⟩⟩
abbrev mX2_canAddFrom : MI := (yX2_canAddFrom, cX2_canAddFrom, 4, (some .boolean))
set_option maxRecDepth 20000 in
theorem fX2_canAddFrom : MFV mX2_canAddFrom 2 3 := ⟨(tb_in 663 (by decide +kernel) rfl), (tb_in 664 (by decide +kernel) rfl), (tb_in 85 (by decide +kernel) rfl), (tb_in 665 (by decide +kernel) rfl), rfl, ⟨by decide +kernel, by decide +kernel, by decide +kernel⟩⟩
abbrev mX2_canDrop : MI := (yX2_canDrop, cX2_canDrop, 2, (some .boolean))
set_option maxRecDepth 20000 in
theorem fX2_canDrop : MFV mX2_canDrop 2 1 := ⟨(tb_in 680 (by decide +kernel) rfl), (tb_in 681 (by decide +kernel) rfl), (tb_in 85 (by decide +kernel) rfl), (tb_in 682 (by decide +kernel) rfl), rfl, ⟨by decide +kernel, by decide +kernel, by decide +kernel⟩⟩
abbrev mX2_canRename : MI := (yX2_canRename, cX2_canRename, 3, (some .boolean))
set_option maxRecDepth 20000 in
theorem fX2_canRename : MFV mX2_canRename 2 2 := ⟨(tb_in 700 (by decide +kernel) rfl), (tb_in 701 (by decide +kernel) rfl), (tb_in 85 (by decide +kernel) rfl), (tb_in 702 (by decide +kernel) rfl), rfl, ⟨by decide +kernel, by decide +kernel, by decide +kernel⟩⟩
abbrev mX2_extendByNumber : MI := (yX2_extendByNumber, cX2_extendByNumber, 4, (some .int))
set_option maxRecDepth 20000 in
theorem fX2_extendByNumber : MFV mX2_extendByNumber 2 2 := ⟨(tb_in 640 (by decide +kernel) rfl), (tb_in 641 (by decide +kernel) rfl), (tb_in 85 (by decide +kernel) rfl), (tb_in 642 (by decide +kernel) rfl), rfl, ⟨by decide +kernel, by decide +kernel, by decide +kernel⟩⟩
abbrev mX2_extendFrom : MI := (yX2_extendFrom, cX2_extendFrom, 7, (some .int))
set_option maxRecDepth 20000 in
theorem fX2_extendFrom : MFV mX2_extendFrom 2 3 := ⟨(tb_in 668 (by decide +kernel) rfl), (tb_in 669 (by decide +kernel) rfl), (tb_in 85 (by decide +kernel) rfl), (tb_in 670 (by decide +kernel) rfl), rfl, ⟨by decide +kernel, by decide +kernel, by decide +kernel⟩⟩
abbrev mX2_leaveOut : MI := (yX2_leaveOut, cX2_leaveOut, 6, (some .int))
set_option maxRecDepth 20000 in
theorem fX2_leaveOut : MFV mX2_leaveOut 2 2 := ⟨(tb_in 685 (by decide +kernel) rfl), (tb_in 686 (by decide +kernel) rfl), (tb_in 85 (by decide +kernel) rfl), (tb_in 687 (by decide +kernel) rfl), rfl, ⟨by decide +kernel, by decide +kernel, by decide +kernel⟩⟩
abbrev mX2_exchangeLetter : MI := (yX2_exchangeLetter, cX2_exchangeLetter, 5, (some .int))
set_option maxRecDepth 20000 in
theorem fX2_exchangeLetter : MFV mX2_exchangeLetter 2 2 := ⟨(tb_in 704 (by decide +kernel) rfl), (tb_in 705 (by decide +kernel) rfl), (tb_in 85 (by decide +kernel) rfl), (tb_in 706 (by decide +kernel) rfl), rfl, ⟨by decide +kernel, by decide +kernel, by decide +kernel⟩⟩
abbrev mX2_setMark : MI := (yX2_setMark, cX2_setMark, 2, (some .int))
set_option maxRecDepth 20000 in
theorem fX2_setMark : MFV mX2_setMark 2 1 := ⟨(tb_in 856 (by decide +kernel) rfl), (tb_in 857 (by decide +kernel) rfl), (tb_in 85 (by decide +kernel) rfl), (tb_in 858 (by decide +kernel) rfl), rfl, ⟨by decide +kernel, by decide +kernel, by decide +kernel⟩⟩
abbrev mX2_carryForth : MI := (yX2_carryForth, cX2_carryForth, 6, none)
set_option maxRecDepth 20000 in
theorem fX2_carryForth : MFV mX2_carryForth 2 3 := ⟨(tb_in 444 (by decide +kernel) rfl), (tb_in 445 (by decide +kernel) rfl), (tb_in 85 (by decide +kernel) rfl), (tb_in 446 (by decide +kernel) rfl), rfl, ⟨by decide +kernel, by decide +kernel, by decide +kernel⟩⟩
abbrev mX2_carryBack : MI := (yX2_carryBack, cX2_carryBack, 5, none)
set_option maxRecDepth 20000 in
theorem fX2_carryBack : MFV mX2_carryBack 2 3 := ⟨(tb_in 451 (by decide +kernel) rfl), (tb_in 452 (by decide +kernel) rfl), (tb_in 85 (by decide +kernel) rfl), (tb_in 453 (by decide +kernel) rfl), rfl, ⟨by decide +kernel, by decide +kernel, by decide +kernel⟩⟩
abbrev mX2_takeFrom : MI := (yX2_takeFrom, cX2_takeFrom, 2, none)
set_option maxRecDepth 20000 in
theorem fX2_takeFrom : MFV mX2_takeFrom 2 1 := ⟨(tb_in 623 (by decide +kernel) rfl), (tb_in 624 (by decide +kernel) rfl), (tb_in 85 (by decide +kernel) rfl), (tb_in 625 (by decide +kernel) rfl), rfl, ⟨by decide +kernel, by decide +kernel, by decide +kernel⟩⟩
abbrev mX2_isFull : MI := (yX2_isFull, cX2_isFull, 1, (some .boolean))
set_option maxRecDepth 20000 in
theorem fX2_isFull : MFV mX2_isFull 2 0 := ⟨(tb_in 584 (by decide +kernel) rfl), (tb_in 12 (by decide +kernel) rfl), (tb_in 85 (by decide +kernel) rfl), (tb_in 585 (by decide +kernel) rfl), rfl, ⟨by decide +kernel, by decide +kernel, by decide +kernel⟩⟩
abbrev mX2_newestHas : MI := (yX2_newestHas, cX2_newestHas, 2, (some .boolean))
set_option maxRecDepth 20000 in
theorem fX2_newestHas : MFV mX2_newestHas 2 1 := ⟨(tb_in 588 (by decide +kernel) rfl), (tb_in 13 (by decide +kernel) rfl), (tb_in 85 (by decide +kernel) rfl), (tb_in 589 (by decide +kernel) rfl), rfl, ⟨by decide +kernel, by decide +kernel, by decide +kernel⟩⟩
abbrev mX2_placeOfLetter : MI := (yX2_placeOfLetter, cX2_placeOfLetter, 5, (some .int))
set_option maxRecDepth 20000 in
theorem fX2_placeOfLetter : MFV mX2_placeOfLetter 2 2 := ⟨(tb_in 396 (by decide +kernel) rfl), (tb_in 5 (by decide +kernel) rfl), (tb_in 85 (by decide +kernel) rfl), (tb_in 397 (by decide +kernel) rfl), rfl, ⟨by decide +kernel, by decide +kernel, by decide +kernel⟩⟩
abbrev mX2_placeOfColumn : MI := (yX2_placeOfColumn, cX2_placeOfColumn, 5, (some .int))
set_option maxRecDepth 20000 in
theorem fX2_placeOfColumn : MFV mX2_placeOfColumn 2 2 := ⟨(tb_in 414 (by decide +kernel) rfl), (tb_in 7 (by decide +kernel) rfl), (tb_in 85 (by decide +kernel) rfl), (tb_in 415 (by decide +kernel) rfl), rfl, ⟨by decide +kernel, by decide +kernel, by decide +kernel⟩⟩
abbrev mX2_letterAt : MI := (yX2_letterAt, cX2_letterAt, 3, (some .int))
set_option maxRecDepth 20000 in
theorem fX2_letterAt : MFV mX2_letterAt 2 2 := ⟨(tb_in 405 (by decide +kernel) rfl), (tb_in 6 (by decide +kernel) rfl), (tb_in 85 (by decide +kernel) rfl), (tb_in 406 (by decide +kernel) rfl), rfl, ⟨by decide +kernel, by decide +kernel, by decide +kernel⟩⟩
abbrev mX2_comeBy : MI := (yX2_comeBy, cX2_comeBy, 5, (some .int))
set_option maxRecDepth 20000 in
theorem fX2_comeBy : MFV mX2_comeBy 2 1 := ⟨(tb_in 645 (by decide +kernel) rfl), (tb_in 16 (by decide +kernel) rfl), (tb_in 85 (by decide +kernel) rfl), (tb_in 646 (by decide +kernel) rfl), rfl, ⟨by decide +kernel, by decide +kernel, by decide +kernel⟩⟩
abbrev mX2_addLast : MI := (yX2_addLast, cX2_addLast, 4, none)
set_option maxRecDepth 20000 in
theorem fX2_addLast : MFV mX2_addLast 2 2 := ⟨(tb_in 649 (by decide +kernel) rfl), (tb_in 17 (by decide +kernel) rfl), (tb_in 85 (by decide +kernel) rfl), (tb_in 650 (by decide +kernel) rfl), rfl, ⟨by decide +kernel, by decide +kernel, by decide +kernel⟩⟩
abbrev mX2_closeGap : MI := (yX2_closeGap, cX2_closeGap, 5, none)
set_option maxRecDepth 20000 in
theorem fX2_closeGap : MFV mX2_closeGap 2 2 := ⟨(tb_in 690 (by decide +kernel) rfl), (tb_in 18 (by decide +kernel) rfl), (tb_in 85 (by decide +kernel) rfl), (tb_in 691 (by decide +kernel) rfl), rfl, ⟨by decide +kernel, by decide +kernel, by decide +kernel⟩⟩
abbrev mX3_init : MI := (yX3_init, cX3_init, 1, none)
set_option maxRecDepth 20000 in
theorem fX3_init : MFI mX3_init 0 := ⟨rfl, rfl, (tb_in 110 (by decide +kernel) rfl), (tb_in 84 (by decide +kernel) rfl), (tb_in 111 (by decide +kernel) rfl), ⟨by decide +kernel, by decide +kernel, by decide +kernel⟩⟩
abbrev mX3_heldBy : MI := (yX3_heldBy, cX3_heldBy, 2, (some .int))
set_option maxRecDepth 20000 in
theorem fX3_heldBy : MFV mX3_heldBy 3 1 := ⟨(tb_in 357 (by decide +kernel) rfl), (tb_in 358 (by decide +kernel) rfl), (tb_in 84 (by decide +kernel) rfl), (tb_in 359 (by decide +kernel) rfl), rfl, ⟨by decide +kernel, by decide +kernel, by decide +kernel⟩⟩
abbrev mX3_letHold : MI := (yX3_letHold, cX3_letHold, 4, (some .int))
set_option maxRecDepth 20000 in
theorem fX3_letHold : MFV mX3_letHold 3 2 := ⟨(tb_in 843 (by decide +kernel) rfl), (tb_in 844 (by decide +kernel) rfl), (tb_in 84 (by decide +kernel) rfl), (tb_in 845 (by decide +kernel) rfl), rfl, ⟨by decide +kernel, by decide +kernel, by decide +kernel⟩⟩
abbrev mX3_valuesRead : MI := (yX3_valuesRead, cX3_valuesRead, 3, (some (.array .int)))
set_option maxRecDepth 20000 in
theorem fX3_valuesRead : MFV mX3_valuesRead 3 2 := ⟨(tb_in 433 (by decide +kernel) rfl), (tb_in 434 (by decide +kernel) rfl), (tb_in 84 (by decide +kernel) rfl), (tb_in 435 (by decide +kernel) rfl), rfl, ⟨by decide +kernel, by decide +kernel, by decide +kernel⟩⟩
abbrev mX3_valueRead : MI := (yX3_valueRead, cX3_valueRead, 5, (some .int))
set_option maxRecDepth 20000 in
theorem fX3_valueRead : MFV mX3_valueRead 3 3 := ⟨(tb_in 472 (by decide +kernel) rfl), (tb_in 473 (by decide +kernel) rfl), (tb_in 84 (by decide +kernel) rfl), (tb_in 474 (by decide +kernel) rfl), rfl, ⟨by decide +kernel, by decide +kernel, by decide +kernel⟩⟩
abbrev mX3_refusal : MI := (yX3_refusal, cX3_refusal, 6, (some .int))
set_option maxRecDepth 20000 in
theorem fX3_refusal : MFV mX3_refusal 3 3 := ⟨(tb_in 771 (by decide +kernel) rfl), (tb_in 772 (by decide +kernel) rfl), (tb_in 84 (by decide +kernel) rfl), (tb_in 773 (by decide +kernel) rfl), rfl, ⟨by decide +kernel, by decide +kernel, by decide +kernel⟩⟩
abbrev mX3_writeValue : MI := (yX3_writeValue, cX3_writeValue, 6, (some .int))
set_option maxRecDepth 20000 in
theorem fX3_writeValue : MFV mX3_writeValue 3 4 := ⟨(tb_in 780 (by decide +kernel) rfl), (tb_in 781 (by decide +kernel) rfl), (tb_in 84 (by decide +kernel) rfl), (tb_in 782 (by decide +kernel) rfl), rfl, ⟨by decide +kernel, by decide +kernel, by decide +kernel⟩⟩
abbrev mX3_stepOn : MI := (yX3_stepOn, cX3_stepOn, 4, (some .int))
set_option maxRecDepth 20000 in
theorem fX3_stepOn : MFV mX3_stepOn 3 1 := ⟨(tb_in 819 (by decide +kernel) rfl), (tb_in 820 (by decide +kernel) rfl), (tb_in 84 (by decide +kernel) rfl), (tb_in 821 (by decide +kernel) rfl), rfl, ⟨by decide +kernel, by decide +kernel, by decide +kernel⟩⟩
abbrev mX3_stepsLeft : MI := (yX3_stepsLeft, cX3_stepsLeft, 4, (some .int))
set_option maxRecDepth 20000 in
theorem fX3_stepsLeft : MFV mX3_stepsLeft 3 0 := ⟨(tb_in 273 (by decide +kernel) rfl), (tb_in 274 (by decide +kernel) rfl), (tb_in 84 (by decide +kernel) rfl), (tb_in 275 (by decide +kernel) rfl), rfl, ⟨by decide +kernel, by decide +kernel, by decide +kernel⟩⟩
abbrev mX3_rowsBehind : MI := (yX3_rowsBehind, cX3_rowsBehind, 1, (some .int))
set_option maxRecDepth 20000 in
theorem fX3_rowsBehind : MFV mX3_rowsBehind 3 0 := ⟨(tb_in 307 (by decide +kernel) rfl), (tb_in 308 (by decide +kernel) rfl), (tb_in 84 (by decide +kernel) rfl), (tb_in 309 (by decide +kernel) rfl), rfl, ⟨by decide +kernel, by decide +kernel, by decide +kernel⟩⟩
abbrev mX3_oldestNeeded : MI := (yX3_oldestNeeded, cX3_oldestNeeded, 3, (some .int))
set_option maxRecDepth 20000 in
theorem fX3_oldestNeeded : MFV mX3_oldestNeeded 3 0 := ⟨(tb_in 350 (by decide +kernel) rfl), (tb_in 351 (by decide +kernel) rfl), (tb_in 84 (by decide +kernel) rfl), (tb_in 352 (by decide +kernel) rfl), rfl, ⟨by decide +kernel, by decide +kernel, by decide +kernel⟩⟩
abbrev mX3_valuesLost : MI := (yX3_valuesLost, cX3_valuesLost, 8, (some .int))
set_option maxRecDepth 20000 in
theorem fX3_valuesLost : MFV mX3_valuesLost 3 2 := ⟨(tb_in 459 (by decide +kernel) rfl), (tb_in 460 (by decide +kernel) rfl), (tb_in 84 (by decide +kernel) rfl), (tb_in 461 (by decide +kernel) rfl), rfl, ⟨by decide +kernel, by decide +kernel, by decide +kernel⟩⟩
abbrev mX3_rowsWith : MI := (yX3_rowsWith, cX3_rowsWith, 6, (some .int))
set_option maxRecDepth 20000 in
theorem fX3_rowsWith : MFV mX3_rowsWith 3 3 := ⟨(tb_in 468 (by decide +kernel) rfl), (tb_in 469 (by decide +kernel) rfl), (tb_in 84 (by decide +kernel) rfl), (tb_in 470 (by decide +kernel) rfl), rfl, ⟨by decide +kernel, by decide +kernel, by decide +kernel⟩⟩
abbrev mX3_shapeProperty : MI := (yX3_shapeProperty, cX3_shapeProperty, 3, (some .int))
set_option maxRecDepth 20000 in
theorem fX3_shapeProperty : MFV mX3_shapeProperty 3 2 := ⟨(tb_in 374 (by decide +kernel) rfl), (tb_in 375 (by decide +kernel) rfl), (tb_in 84 (by decide +kernel) rfl), (tb_in 376 (by decide +kernel) rfl), rfl, ⟨by decide +kernel, by decide +kernel, by decide +kernel⟩⟩
abbrev mX3_rowProperty : MI := (yX3_rowProperty, cX3_rowProperty, 4, (some .int))
set_option maxRecDepth 20000 in
theorem fX3_rowProperty : MFV mX3_rowProperty 3 2 := ⟨(tb_in 421 (by decide +kernel) rfl), (tb_in 422 (by decide +kernel) rfl), (tb_in 84 (by decide +kernel) rfl), (tb_in 423 (by decide +kernel) rfl), rfl, ⟨by decide +kernel, by decide +kernel, by decide +kernel⟩⟩
abbrev mX3_takeFrom : MI := (yX3_takeFrom, cX3_takeFrom, 2, none)
set_option maxRecDepth 20000 in
theorem fX3_takeFrom : MFV mX3_takeFrom 3 1 := ⟨(tb_in 619 (by decide +kernel) rfl), (tb_in 620 (by decide +kernel) rfl), (tb_in 84 (by decide +kernel) rfl), (tb_in 621 (by decide +kernel) rfl), rfl, ⟨by decide +kernel, by decide +kernel, by decide +kernel⟩⟩
abbrev mX3_stepOnce : MI := (yX3_stepOnce, cX3_stepOnce, 2, none)
set_option maxRecDepth 20000 in
theorem fX3_stepOnce : MFV mX3_stepOnce 3 0 := ⟨(tb_in 825 (by decide +kernel) rfl), (tb_in 20 (by decide +kernel) rfl), (tb_in 84 (by decide +kernel) rfl), (tb_in 826 (by decide +kernel) rfl), rfl, ⟨by decide +kernel, by decide +kernel, by decide +kernel⟩⟩
abbrev mX3_isBehind : MI := (yX3_isBehind, cX3_isBehind, 2, (some .boolean))
set_option maxRecDepth 20000 in
theorem fX3_isBehind : MFV mX3_isBehind 3 1 := ⟨(tb_in 290 (by decide +kernel) rfl), (tb_in 0 (by decide +kernel) rfl), (tb_in 84 (by decide +kernel) rfl), (tb_in 291 (by decide +kernel) rfl), rfl, ⟨by decide +kernel, by decide +kernel, by decide +kernel⟩⟩
abbrev mX3_sumRead : MI := (yX3_sumRead, cX3_sumRead, 6, (some .int))
set_option maxRecDepth 20000 in
theorem fX3_sumRead : MFV mX3_sumRead 3 2 := ⟨(tb_in 430 (by decide +kernel) rfl), (tb_in 9 (by decide +kernel) rfl), (tb_in 84 (by decide +kernel) rfl), (tb_in 431 (by decide +kernel) rfl), rfl, ⟨by decide +kernel, by decide +kernel, by decide +kernel⟩⟩
abbrev mX3_rowsOfShape : MI := (yX3_rowsOfShape, cX3_rowsOfShape, 4, (some .int))
set_option maxRecDepth 20000 in
theorem fX3_rowsOfShape : MFV mX3_rowsOfShape 3 1 := ⟨(tb_in 312 (by decide +kernel) rfl), (tb_in 1 (by decide +kernel) rfl), (tb_in 84 (by decide +kernel) rfl), (tb_in 313 (by decide +kernel) rfl), rfl, ⟨by decide +kernel, by decide +kernel, by decide +kernel⟩⟩
abbrev mX3_readersOfShape : MI := (yX3_readersOfShape, cX3_readersOfShape, 4, (some .int))
set_option maxRecDepth 20000 in
theorem fX3_readersOfShape : MFV mX3_readersOfShape 3 1 := ⟨(tb_in 384 (by decide +kernel) rfl), (tb_in 4 (by decide +kernel) rfl), (tb_in 84 (by decide +kernel) rfl), (tb_in 385 (by decide +kernel) rfl), rfl, ⟨by decide +kernel, by decide +kernel, by decide +kernel⟩⟩
abbrev mX4_init : MI := (yX4_init, cX4_init, 1, none)
set_option maxRecDepth 20000 in
theorem fX4_init : MFI mX4_init 0 := ⟨rfl, rfl, (tb_in 210 (by decide +kernel) rfl), (tb_in 88 (by decide +kernel) rfl), (tb_in 211 (by decide +kernel) rfl), ⟨by decide +kernel, by decide +kernel, by decide +kernel⟩⟩
abbrev mX4_length : MI := (yX4_length, cX4_length, 1, (some .int))
set_option maxRecDepth 20000 in
theorem fX4_length : MFV mX4_length 4 0 := ⟨(tb_in 491 (by decide +kernel) rfl), (tb_in 492 (by decide +kernel) rfl), (tb_in 88 (by decide +kernel) rfl), (tb_in 493 (by decide +kernel) rfl), rfl, ⟨by decide +kernel, by decide +kernel, by decide +kernel⟩⟩
abbrev mX4_isFull : MI := (yX4_isFull, cX4_isFull, 1, (some .boolean))
set_option maxRecDepth 20000 in
theorem fX4_isFull : MFV mX4_isFull 4 0 := ⟨(tb_in 868 (by decide +kernel) rfl), (tb_in 869 (by decide +kernel) rfl), (tb_in 88 (by decide +kernel) rfl), (tb_in 870 (by decide +kernel) rfl), rfl, ⟨by decide +kernel, by decide +kernel, by decide +kernel⟩⟩
abbrev mX4_add : MI := (yX4_add, cX4_add, 2, (some .int))
set_option maxRecDepth 20000 in
theorem fX4_add : MFV mX4_add 4 1 := ⟨(tb_in 873 (by decide +kernel) rfl), (tb_in 874 (by decide +kernel) rfl), (tb_in 88 (by decide +kernel) rfl), (tb_in 875 (by decide +kernel) rfl), rfl, ⟨by decide +kernel, by decide +kernel, by decide +kernel⟩⟩
abbrev mX4_clear : MI := (yX4_clear, cX4_clear, 2, (some .int))
set_option maxRecDepth 20000 in
theorem fX4_clear : MFV mX4_clear 4 0 := ⟨(tb_in 235 (by decide +kernel) rfl), (tb_in 236 (by decide +kernel) rfl), (tb_in 88 (by decide +kernel) rfl), (tb_in 237 (by decide +kernel) rfl), rfl, ⟨by decide +kernel, by decide +kernel, by decide +kernel⟩⟩
abbrev mX4_code : MI := (yX4_code, cX4_code, 2, (some .int))
set_option maxRecDepth 20000 in
theorem fX4_code : MFV mX4_code 4 1 := ⟨(tb_in 247 (by decide +kernel) rfl), (tb_in 248 (by decide +kernel) rfl), (tb_in 88 (by decide +kernel) rfl), (tb_in 249 (by decide +kernel) rfl), rfl, ⟨by decide +kernel, by decide +kernel, by decide +kernel⟩⟩
abbrev mX4_letter : MI := (yX4_letter, cX4_letter, 2, (some .int))
set_option maxRecDepth 20000 in
theorem fX4_letter : MFV mX4_letter 4 1 := ⟨(tb_in 902 (by decide +kernel) rfl), (tb_in 903 (by decide +kernel) rfl), (tb_in 88 (by decide +kernel) rfl), (tb_in 904 (by decide +kernel) rfl), rfl, ⟨by decide +kernel, by decide +kernel, by decide +kernel⟩⟩
abbrev mX4_number : MI := (yX4_number, cX4_number, 5, (some .int))
set_option maxRecDepth 20000 in
theorem fX4_number : MFV mX4_number 4 2 := ⟨(tb_in 906 (by decide +kernel) rfl), (tb_in 907 (by decide +kernel) rfl), (tb_in 88 (by decide +kernel) rfl), (tb_in 908 (by decide +kernel) rfl), rfl, ⟨by decide +kernel, by decide +kernel, by decide +kernel⟩⟩
abbrev mX4_endsOrder : MI := (yX4_endsOrder, cX4_endsOrder, 2, (some .boolean))
set_option maxRecDepth 20000 in
theorem fX4_endsOrder : MFV mX4_endsOrder 4 1 := ⟨(tb_in 890 (by decide +kernel) rfl), (tb_in 891 (by decide +kernel) rfl), (tb_in 88 (by decide +kernel) rfl), (tb_in 892 (by decide +kernel) rfl), rfl, ⟨by decide +kernel, by decide +kernel, by decide +kernel⟩⟩
abbrev mX4_errorPlace : MI := (yX4_errorPlace, cX4_errorPlace, 3, (some .int))
set_option maxRecDepth 20000 in
theorem fX4_errorPlace : MFV mX4_errorPlace 4 0 := ⟨(tb_in 243 (by decide +kernel) rfl), (tb_in 244 (by decide +kernel) rfl), (tb_in 88 (by decide +kernel) rfl), (tb_in 245 (by decide +kernel) rfl), rfl, ⟨by decide +kernel, by decide +kernel, by decide +kernel⟩⟩
abbrev mX4_isComplete : MI := (yX4_isComplete, cX4_isComplete, 3, (some .boolean))
set_option maxRecDepth 20000 in
theorem fX4_isComplete : MFV mX4_isComplete 4 0 := ⟨(tb_in 885 (by decide +kernel) rfl), (tb_in 886 (by decide +kernel) rfl), (tb_in 88 (by decide +kernel) rfl), (tb_in 887 (by decide +kernel) rfl), rfl, ⟨by decide +kernel, by decide +kernel, by decide +kernel⟩⟩
abbrev mX4_mayEnd : MI := (yX4_mayEnd, cX4_mayEnd, 1, (some .boolean))
set_option maxRecDepth 20000 in
theorem fX4_mayEnd : MFS mX4_mayEnd 1 := ⟨(tb_in 257 (by decide +kernel) rfl), (tb_in 88 (by decide +kernel) rfl), (tb_in 258 (by decide +kernel) rfl), ⟨by decide +kernel, by decide +kernel, by decide +kernel⟩⟩
abbrev mX4_next : MI := (yX4_next, cX4_next, 2, (some .int))
set_option maxRecDepth 20000 in
theorem fX4_next : MFS mX4_next 2 := ⟨(tb_in 254 (by decide +kernel) rfl), (tb_in 88 (by decide +kernel) rfl), (tb_in 255 (by decide +kernel) rfl), ⟨by decide +kernel, by decide +kernel, by decide +kernel⟩⟩
abbrev mX4_afterFirst : MI := (yX4_afterFirst, cX4_afterFirst, 1, (some .int))
set_option maxRecDepth 20000 in
theorem fX4_afterFirst : MFS mX4_afterFirst 1 := ⟨(tb_in 260 (by decide +kernel) rfl), (tb_in 88 (by decide +kernel) rfl), (tb_in 261 (by decide +kernel) rfl), ⟨by decide +kernel, by decide +kernel, by decide +kernel⟩⟩
abbrev mX4_afterLetter : MI := (yX4_afterLetter, cX4_afterLetter, 1, (some .int))
set_option maxRecDepth 20000 in
theorem fX4_afterLetter : MFS mX4_afterLetter 1 := ⟨(tb_in 266 (by decide +kernel) rfl), (tb_in 88 (by decide +kernel) rfl), (tb_in 267 (by decide +kernel) rfl), ⟨by decide +kernel, by decide +kernel, by decide +kernel⟩⟩
abbrev mX4_oneOf : MI := (yX4_oneOf, cX4_oneOf, 4, (some .int))
set_option maxRecDepth 20000 in
theorem fX4_oneOf : MFS mX4_oneOf 4 := ⟨(tb_in 263 (by decide +kernel) rfl), (tb_in 88 (by decide +kernel) rfl), (tb_in 264 (by decide +kernel) rfl), ⟨by decide +kernel, by decide +kernel, by decide +kernel⟩⟩
abbrev mX5_init : MI := (yX5_init, cX5_init, 1, none)
set_option maxRecDepth 20000 in
theorem fX5_init : MFI mX5_init 0 := ⟨rfl, rfl, (tb_in 102 (by decide +kernel) rfl), (tb_in 83 (by decide +kernel) rfl), (tb_in 103 (by decide +kernel) rfl), ⟨by decide +kernel, by decide +kernel, by decide +kernel⟩⟩
abbrev mX5_addNumber : MI := (yX5_addNumber, cX5_addNumber, 3, (some .int))
set_option maxRecDepth 20000 in
theorem fX5_addNumber : MFV mX5_addNumber 5 2 := ⟨(tb_in 501 (by decide +kernel) rfl), (tb_in 502 (by decide +kernel) rfl), (tb_in 83 (by decide +kernel) rfl), (tb_in 503 (by decide +kernel) rfl), rfl, ⟨by decide +kernel, by decide +kernel, by decide +kernel⟩⟩
abbrev mX5_addCopy : MI := (yX5_addCopy, cX5_addCopy, 4, (some .int))
set_option maxRecDepth 20000 in
theorem fX5_addCopy : MFV mX5_addCopy 5 3 := ⟨(tb_in 655 (by decide +kernel) rfl), (tb_in 656 (by decide +kernel) rfl), (tb_in 83 (by decide +kernel) rfl), (tb_in 657 (by decide +kernel) rfl), rfl, ⟨by decide +kernel, by decide +kernel, by decide +kernel⟩⟩
abbrev mX5_drop : MI := (yX5_drop, cX5_drop, 3, (some .int))
set_option maxRecDepth 20000 in
theorem fX5_drop : MFV mX5_drop 5 2 := ⟨(tb_in 676 (by decide +kernel) rfl), (tb_in 677 (by decide +kernel) rfl), (tb_in 83 (by decide +kernel) rfl), (tb_in 678 (by decide +kernel) rfl), rfl, ⟨by decide +kernel, by decide +kernel, by decide +kernel⟩⟩
abbrev mX5_rename : MI := (yX5_rename, cX5_rename, 3, (some .int))
set_option maxRecDepth 20000 in
theorem fX5_rename : MFV mX5_rename 5 2 := ⟨(tb_in 696 (by decide +kernel) rfl), (tb_in 697 (by decide +kernel) rfl), (tb_in 83 (by decide +kernel) rfl), (tb_in 698 (by decide +kernel) rfl), rfl, ⟨by decide +kernel, by decide +kernel, by decide +kernel⟩⟩
abbrev mX5_insert : MI := (yX5_insert, cX5_insert, 1, (some .int))
set_option maxRecDepth 20000 in
theorem fX5_insert : MFV mX5_insert 5 0 := ⟨(tb_in 711 (by decide +kernel) rfl), (tb_in 712 (by decide +kernel) rfl), (tb_in 83 (by decide +kernel) rfl), (tb_in 713 (by decide +kernel) rfl), rfl, ⟨by decide +kernel, by decide +kernel, by decide +kernel⟩⟩
abbrev mX5_insertBy : MI := (yX5_insertBy, cX5_insertBy, 2, (some .int))
set_option maxRecDepth 20000 in
theorem fX5_insertBy : MFV mX5_insertBy 5 1 := ⟨(tb_in 728 (by decide +kernel) rfl), (tb_in 729 (by decide +kernel) rfl), (tb_in 83 (by decide +kernel) rfl), (tb_in 730 (by decide +kernel) rfl), rfl, ⟨by decide +kernel, by decide +kernel, by decide +kernel⟩⟩
abbrev mX5_write : MI := (yX5_write, cX5_write, 5, (some .int))
set_option maxRecDepth 20000 in
theorem fX5_write : MFV mX5_write 5 4 := ⟨(tb_in 760 (by decide +kernel) rfl), (tb_in 761 (by decide +kernel) rfl), (tb_in 83 (by decide +kernel) rfl), (tb_in 762 (by decide +kernel) rfl), rfl, ⟨by decide +kernel, by decide +kernel, by decide +kernel⟩⟩
abbrev mX5_remove : MI := (yX5_remove, cX5_remove, 2, (some .int))
set_option maxRecDepth 20000 in
theorem fX5_remove : MFV mX5_remove 5 1 := ⟨(tb_in 796 (by decide +kernel) rfl), (tb_in 797 (by decide +kernel) rfl), (tb_in 83 (by decide +kernel) rfl), (tb_in 798 (by decide +kernel) rfl), rfl, ⟨by decide +kernel, by decide +kernel, by decide +kernel⟩⟩
abbrev mX5_goOn : MI := (yX5_goOn, cX5_goOn, 2, (some .int))
set_option maxRecDepth 20000 in
theorem fX5_goOn : MFV mX5_goOn 5 1 := ⟨(tb_in 814 (by decide +kernel) rfl), (tb_in 815 (by decide +kernel) rfl), (tb_in 83 (by decide +kernel) rfl), (tb_in 816 (by decide +kernel) rfl), rfl, ⟨by decide +kernel, by decide +kernel, by decide +kernel⟩⟩
abbrev mX5_hold : MI := (yX5_hold, cX5_hold, 3, (some .int))
set_option maxRecDepth 20000 in
theorem fX5_hold : MFV mX5_hold 5 2 := ⟨(tb_in 835 (by decide +kernel) rfl), (tb_in 836 (by decide +kernel) rfl), (tb_in 83 (by decide +kernel) rfl), (tb_in 837 (by decide +kernel) rfl), rfl, ⟨by decide +kernel, by decide +kernel, by decide +kernel⟩⟩
abbrev mX5_retire : MI := (yX5_retire, cX5_retire, 2, (some .int))
set_option maxRecDepth 20000 in
theorem fX5_retire : MFV mX5_retire 5 1 := ⟨(tb_in 851 (by decide +kernel) rfl), (tb_in 852 (by decide +kernel) rfl), (tb_in 83 (by decide +kernel) rfl), (tb_in 853 (by decide +kernel) rfl), rfl, ⟨by decide +kernel, by decide +kernel, by decide +kernel⟩⟩
abbrev mX5_append : MI := (yX5_append, cX5_append, 2, (some .int))
set_option maxRecDepth 20000 in
theorem fX5_append : MFV mX5_append 5 1 := ⟨(tb_in 863 (by decide +kernel) rfl), (tb_in 864 (by decide +kernel) rfl), (tb_in 83 (by decide +kernel) rfl), (tb_in 865 (by decide +kernel) rfl), rfl, ⟨by decide +kernel, by decide +kernel, by decide +kernel⟩⟩
abbrev mX5_clearBuffer : MI := (yX5_clearBuffer, cX5_clearBuffer, 1, (some .int))
set_option maxRecDepth 20000 in
theorem fX5_clearBuffer : MFV mX5_clearBuffer 5 0 := ⟨(tb_in 231 (by decide +kernel) rfl), (tb_in 232 (by decide +kernel) rfl), (tb_in 83 (by decide +kernel) rfl), (tb_in 233 (by decide +kernel) rfl), rfl, ⟨by decide +kernel, by decide +kernel, by decide +kernel⟩⟩
abbrev mX5_firstError : MI := (yX5_firstError, cX5_firstError, 1, (some .int))
set_option maxRecDepth 20000 in
theorem fX5_firstError : MFV mX5_firstError 5 0 := ⟨(tb_in 239 (by decide +kernel) rfl), (tb_in 240 (by decide +kernel) rfl), (tb_in 83 (by decide +kernel) rfl), (tb_in 241 (by decide +kernel) rfl), rfl, ⟨by decide +kernel, by decide +kernel, by decide +kernel⟩⟩
abbrev mX5_run : MI := (yX5_run, cX5_run, 5, (some .int))
set_option maxRecDepth 20000 in
theorem fX5_run : MFV mX5_run 5 0 := ⟨(tb_in 881 (by decide +kernel) rfl), (tb_in 882 (by decide +kernel) rfl), (tb_in 83 (by decide +kernel) rfl), (tb_in 883 (by decide +kernel) rfl), rfl, ⟨by decide +kernel, by decide +kernel, by decide +kernel⟩⟩
abbrev mX5_undo : MI := (yX5_undo, cX5_undo, 1, (some .int))
set_option maxRecDepth 20000 in
theorem fX5_undo : MFV mX5_undo 5 0 := ⟨(tb_in 929 (by decide +kernel) rfl), (tb_in 930 (by decide +kernel) rfl), (tb_in 83 (by decide +kernel) rfl), (tb_in 931 (by decide +kernel) rfl), rfl, ⟨by decide +kernel, by decide +kernel, by decide +kernel⟩⟩
abbrev mX5_read : MI := (yX5_read, cX5_read, 4, (some .int))
set_option maxRecDepth 20000 in
theorem fX5_read : MFV mX5_read 5 3 := ⟨(tb_in 941 (by decide +kernel) rfl), (tb_in 942 (by decide +kernel) rfl), (tb_in 83 (by decide +kernel) rfl), (tb_in 943 (by decide +kernel) rfl), rfl, ⟨by decide +kernel, by decide +kernel, by decide +kernel⟩⟩
abbrev mX5_readAs : MI := (yX5_readAs, cX5_readAs, 4, (some .int))
set_option maxRecDepth 20000 in
theorem fX5_readAs : MFV mX5_readAs 5 3 := ⟨(tb_in 950 (by decide +kernel) rfl), (tb_in 951 (by decide +kernel) rfl), (tb_in 83 (by decide +kernel) rfl), (tb_in 952 (by decide +kernel) rfl), rfl, ⟨by decide +kernel, by decide +kernel, by decide +kernel⟩⟩
abbrev mX5_column : MI := (yX5_column, cX5_column, 4, (some .int))
set_option maxRecDepth 20000 in
theorem fX5_column : MFV mX5_column 5 3 := ⟨(tb_in 958 (by decide +kernel) rfl), (tb_in 959 (by decide +kernel) rfl), (tb_in 83 (by decide +kernel) rfl), (tb_in 960 (by decide +kernel) rfl), rfl, ⟨by decide +kernel, by decide +kernel, by decide +kernel⟩⟩
abbrev mX5_shape : MI := (yX5_shape, cX5_shape, 3, (some .int))
set_option maxRecDepth 20000 in
theorem fX5_shape : MFV mX5_shape 5 2 := ⟨(tb_in 968 (by decide +kernel) rfl), (tb_in 969 (by decide +kernel) rfl), (tb_in 83 (by decide +kernel) rfl), (tb_in 970 (by decide +kernel) rfl), rfl, ⟨by decide +kernel, by decide +kernel, by decide +kernel⟩⟩
abbrev mX5_row : MI := (yX5_row, cX5_row, 3, (some .int))
set_option maxRecDepth 20000 in
theorem fX5_row : MFV mX5_row 5 2 := ⟨(tb_in 976 (by decide +kernel) rfl), (tb_in 977 (by decide +kernel) rfl), (tb_in 83 (by decide +kernel) rfl), (tb_in 978 (by decide +kernel) rfl), rfl, ⟨by decide +kernel, by decide +kernel, by decide +kernel⟩⟩
abbrev mX5_count : MI := (yX5_count, cX5_count, 2, (some .int))
set_option maxRecDepth 20000 in
theorem fX5_count : MFV mX5_count 5 1 := ⟨(tb_in 983 (by decide +kernel) rfl), (tb_in 984 (by decide +kernel) rfl), (tb_in 83 (by decide +kernel) rfl), (tb_in 985 (by decide +kernel) rfl), rfl, ⟨by decide +kernel, by decide +kernel, by decide +kernel⟩⟩
abbrev mX5_lost : MI := (yX5_lost, cX5_lost, 3, (some .int))
set_option maxRecDepth 20000 in
theorem fX5_lost : MFV mX5_lost 5 2 := ⟨(tb_in 990 (by decide +kernel) rfl), (tb_in 991 (by decide +kernel) rfl), (tb_in 83 (by decide +kernel) rfl), (tb_in 992 (by decide +kernel) rfl), rfl, ⟨by decide +kernel, by decide +kernel, by decide +kernel⟩⟩
abbrev mX5_against : MI := (yX5_against, cX5_against, 4, (some .int))
set_option maxRecDepth 20000 in
theorem fX5_against : MFV mX5_against 5 3 := ⟨(tb_in 997 (by decide +kernel) rfl), (tb_in 998 (by decide +kernel) rfl), (tb_in 83 (by decide +kernel) rfl), (tb_in 999 (by decide +kernel) rfl), rfl, ⟨by decide +kernel, by decide +kernel, by decide +kernel⟩⟩
abbrev mX5_toGo : MI := (yX5_toGo, cX5_toGo, 1, (some .int))
set_option maxRecDepth 20000 in
theorem fX5_toGo : MFV mX5_toGo 5 0 := ⟨(tb_in 269 (by decide +kernel) rfl), (tb_in 270 (by decide +kernel) rfl), (tb_in 83 (by decide +kernel) rfl), (tb_in 271 (by decide +kernel) rfl), rfl, ⟨by decide +kernel, by decide +kernel, by decide +kernel⟩⟩
abbrev mX5_find : MI := (yX5_find, cX5_find, 4, (some .int))
set_option maxRecDepth 20000 in
theorem fX5_find : MFV mX5_find 5 3 := ⟨(tb_in 1004 (by decide +kernel) rfl), (tb_in 1005 (by decide +kernel) rfl), (tb_in 83 (by decide +kernel) rfl), (tb_in 1006 (by decide +kernel) rfl), rfl, ⟨by decide +kernel, by decide +kernel, by decide +kernel⟩⟩
abbrev mX5_freshShare : MI := (yX5_freshShare, cX5_freshShare, 2, (some .double))
set_option maxRecDepth 20000 in
theorem fX5_freshShare : MFV mX5_freshShare 5 0 := ⟨(tb_in 302 (by decide +kernel) rfl), (tb_in 303 (by decide +kernel) rfl), (tb_in 83 (by decide +kernel) rfl), (tb_in 304 (by decide +kernel) rfl), rfl, ⟨by decide +kernel, by decide +kernel, by decide +kernel⟩⟩
abbrev mX5_digest : MI := (yX5_digest, cX5_digest, 4, (some .long))
set_option maxRecDepth 20000 in
theorem fX5_digest : MFV mX5_digest 5 0 := ⟨(tb_in 315 (by decide +kernel) rfl), (tb_in 316 (by decide +kernel) rfl), (tb_in 83 (by decide +kernel) rfl), (tb_in 317 (by decide +kernel) rfl), rfl, ⟨by decide +kernel, by decide +kernel, by decide +kernel⟩⟩
abbrev mX5_counted : MI := (yX5_counted, cX5_counted, 2, (some .int))
set_option maxRecDepth 20000 in
theorem fX5_counted : MFV mX5_counted 5 1 := ⟨(tb_in 321 (by decide +kernel) rfl), (tb_in 2 (by decide +kernel) rfl), (tb_in 83 (by decide +kernel) rfl), (tb_in 322 (by decide +kernel) rfl), rfl, ⟨by decide +kernel, by decide +kernel, by decide +kernel⟩⟩
abbrev mX5_carriesOut : MI := (yX5_carriesOut, cX5_carriesOut, 3, (some .boolean))
set_option maxRecDepth 20000 in
theorem fX5_carriesOut : MFV mX5_carriesOut 5 2 := ⟨(tb_in 895 (by decide +kernel) rfl), (tb_in 21 (by decide +kernel) rfl), (tb_in 83 (by decide +kernel) rfl), (tb_in 896 (by decide +kernel) rfl), rfl, ⟨by decide +kernel, by decide +kernel, by decide +kernel⟩⟩
abbrev mX5_addsNumber : MI := (yX5_addsNumber, cX5_addsNumber, 4, (some .boolean))
set_option maxRecDepth 20000 in
theorem fX5_addsNumber : MFV mX5_addsNumber 5 2 := ⟨(tb_in 899 (by decide +kernel) rfl), (tb_in 22 (by decide +kernel) rfl), (tb_in 83 (by decide +kernel) rfl), (tb_in 900 (by decide +kernel) rfl), rfl, ⟨by decide +kernel, by decide +kernel, by decide +kernel⟩⟩
abbrev mX5_addsFrom : MI := (yX5_addsFrom, cX5_addsFrom, 6, (some .boolean))
set_option maxRecDepth 20000 in
theorem fX5_addsFrom : MFV mX5_addsFrom 5 2 := ⟨(tb_in 911 (by decide +kernel) rfl), (tb_in 23 (by decide +kernel) rfl), (tb_in 83 (by decide +kernel) rfl), (tb_in 912 (by decide +kernel) rfl), rfl, ⟨by decide +kernel, by decide +kernel, by decide +kernel⟩⟩
abbrev mX5_drops : MI := (yX5_drops, cX5_drops, 4, (some .boolean))
set_option maxRecDepth 20000 in
theorem fX5_drops : MFV mX5_drops 5 2 := ⟨(tb_in 915 (by decide +kernel) rfl), (tb_in 24 (by decide +kernel) rfl), (tb_in 83 (by decide +kernel) rfl), (tb_in 916 (by decide +kernel) rfl), rfl, ⟨by decide +kernel, by decide +kernel, by decide +kernel⟩⟩
abbrev mX5_renames : MI := (yX5_renames, cX5_renames, 4, (some .boolean))
set_option maxRecDepth 20000 in
theorem fX5_renames : MFV mX5_renames 5 1 := ⟨(tb_in 919 (by decide +kernel) rfl), (tb_in 25 (by decide +kernel) rfl), (tb_in 83 (by decide +kernel) rfl), (tb_in 920 (by decide +kernel) rfl), rfl, ⟨by decide +kernel, by decide +kernel, by decide +kernel⟩⟩
abbrev mX5_inserts : MI := (yX5_inserts, cX5_inserts, 1, (some .boolean))
set_option maxRecDepth 20000 in
theorem fX5_inserts : MFV mX5_inserts 5 0 := ⟨(tb_in 923 (by decide +kernel) rfl), (tb_in 26 (by decide +kernel) rfl), (tb_in 83 (by decide +kernel) rfl), (tb_in 924 (by decide +kernel) rfl), rfl, ⟨by decide +kernel, by decide +kernel, by decide +kernel⟩⟩
abbrev mX5_mixedShapes : MI := (yX5_mixedShapes, cX5_mixedShapes, 8, (some .long))
set_option maxRecDepth 20000 in
theorem fX5_mixedShapes : MFV mX5_mixedShapes 5 1 := ⟨(tb_in 371 (by decide +kernel) rfl), (tb_in 3 (by decide +kernel) rfl), (tb_in 83 (by decide +kernel) rfl), (tb_in 372 (by decide +kernel) rfl), rfl, ⟨by decide +kernel, by decide +kernel, by decide +kernel⟩⟩
abbrev mX5_mixedRow : MI := (yX5_mixedRow, cX5_mixedRow, 9, (some .long))
set_option maxRecDepth 20000 in
theorem fX5_mixedRow : MFV mX5_mixedRow 5 2 := ⟨(tb_in 418 (by decide +kernel) rfl), (tb_in 8 (by decide +kernel) rfl), (tb_in 83 (by decide +kernel) rfl), (tb_in 419 (by decide +kernel) rfl), rfl, ⟨by decide +kernel, by decide +kernel, by decide +kernel⟩⟩
abbrev mX5_mixedText : MI := (yX5_mixedText, cX5_mixedText, 6, (some .long))
set_option maxRecDepth 20000 in
theorem fX5_mixedText : MFV mX5_mixedText 5 1 := ⟨(tb_in 488 (by decide +kernel) rfl), (tb_in 10 (by decide +kernel) rfl), (tb_in 83 (by decide +kernel) rfl), (tb_in 489 (by decide +kernel) rfl), rfl, ⟨by decide +kernel, by decide +kernel, by decide +kernel⟩⟩
abbrev mX5_mixed : MI := (yX5_mixed, cX5_mixed, 4, (some .long))
set_option maxRecDepth 20000 in
theorem fX5_mixed : MFS mX5_mixed 2 := ⟨(tb_in 366 (by decide +kernel) rfl), (tb_in 83 (by decide +kernel) rfl), (tb_in 367 (by decide +kernel) rfl), ⟨by decide +kernel, by decide +kernel, by decide +kernel⟩⟩
abbrev mX5_bitsOfShare : MI := (yX5_bitsOfShare, cX5_bitsOfShare, 7, (some .long))
set_option maxRecDepth 20000 in
theorem fX5_bitsOfShare : MFS mX5_bitsOfShare 1 := ⟨(tb_in 481 (by decide +kernel) rfl), (tb_in 83 (by decide +kernel) rfl), (tb_in 482 (by decide +kernel) rfl), ⟨by decide +kernel, by decide +kernel, by decide +kernel⟩⟩
abbrev mX5_isLetter : MI := (yX5_isLetter, cX5_isLetter, 1, (some .boolean))
set_option maxRecDepth 20000 in
theorem fX5_isLetter : MFS mX5_isLetter 1 := ⟨(tb_in 505 (by decide +kernel) rfl), (tb_in 83 (by decide +kernel) rfl), (tb_in 506 (by decide +kernel) rfl), ⟨by decide +kernel, by decide +kernel, by decide +kernel⟩⟩
abbrev mX5_isLetterOrNone : MI := (yX5_isLetterOrNone, cX5_isLetterOrNone, 1, (some .boolean))
set_option maxRecDepth 20000 in
theorem fX5_isLetterOrNone : MFS mX5_isLetterOrNone 1 := ⟨(tb_in 659 (by decide +kernel) rfl), (tb_in 83 (by decide +kernel) rfl), (tb_in 660 (by decide +kernel) rfl), ⟨by decide +kernel, by decide +kernel, by decide +kernel⟩⟩
abbrev mX5_isNumber : MI := (yX5_isNumber, cX5_isNumber, 1, (some .boolean))
set_option maxRecDepth 20000 in
theorem fX5_isNumber : MFS mX5_isNumber 1 := ⟨(tb_in 508 (by decide +kernel) rfl), (tb_in 83 (by decide +kernel) rfl), (tb_in 509 (by decide +kernel) rfl), ⟨by decide +kernel, by decide +kernel, by decide +kernel⟩⟩
abbrev mX5_isValue : MI := (yX5_isValue, cX5_isValue, 1, (some .boolean))
set_option maxRecDepth 20000 in
theorem fX5_isValue : MFS mX5_isValue 1 := ⟨(tb_in 766 (by decide +kernel) rfl), (tb_in 83 (by decide +kernel) rfl), (tb_in 767 (by decide +kernel) rfl), ⟨by decide +kernel, by decide +kernel, by decide +kernel⟩⟩
abbrev mX5_isReader : MI := (yX5_isReader, cX5_isReader, 1, (some .boolean))
set_option maxRecDepth 20000 in
theorem fX5_isReader : MFS mX5_isReader 1 := ⟨(tb_in 839 (by decide +kernel) rfl), (tb_in 83 (by decide +kernel) rfl), (tb_in 840 (by decide +kernel) rfl), ⟨by decide +kernel, by decide +kernel, by decide +kernel⟩⟩
abbrev mX5_at : MI := (yX5_at, cX5_at, 2, (some .int))
set_option maxRecDepth 20000 in
theorem fX5_at : MFS mX5_at 2 := ⟨(tb_in 251 (by decide +kernel) rfl), (tb_in 83 (by decide +kernel) rfl), (tb_in 252 (by decide +kernel) rfl), ⟨by decide +kernel, by decide +kernel, by decide +kernel⟩⟩
abbrev mX5_put : MI := (yX5_put, cX5_put, 3, none)
set_option maxRecDepth 20000 in
theorem fX5_put : MFS mX5_put 3 := ⟨(tb_in 441 (by decide +kernel) rfl), (tb_in 83 (by decide +kernel) rfl), (tb_in 442 (by decide +kernel) rfl), ⟨by decide +kernel, by decide +kernel, by decide +kernel⟩⟩
abbrev mX5_copyAll : MI := (yX5_copyAll, cX5_copyAll, 2, none)
set_option maxRecDepth 20000 in
theorem fX5_copyAll : MFS mX5_copyAll 2 := ⟨(tb_in 627 (by decide +kernel) rfl), (tb_in 83 (by decide +kernel) rfl), (tb_in 628 (by decide +kernel) rfl), ⟨by decide +kernel, by decide +kernel, by decide +kernel⟩⟩
abbrev mX6_init : MI := (yX6_init, cX6_init, 1, none)
set_option maxRecDepth 20000 in
theorem fX6_init : MFI mX6_init 0 := ⟨rfl, rfl, (tb_in 1010 (by decide +kernel) rfl), (tb_in 89 (by decide +kernel) rfl), (tb_in 1011 (by decide +kernel) rfl), ⟨by decide +kernel, by decide +kernel, by decide +kernel⟩⟩
abbrev mX6_thrown : MI := (yX6_thrown, cX6_thrown, 1, (some .int))
set_option maxRecDepth 20000 in
theorem fX6_thrown : MFV mX6_thrown 6 0 := ⟨(tb_in 1054 (by decide +kernel) rfl), (tb_in 1055 (by decide +kernel) rfl), (tb_in 89 (by decide +kernel) rfl), (tb_in 1056 (by decide +kernel) rfl), rfl, ⟨by decide +kernel, by decide +kernel, by decide +kernel⟩⟩
abbrev mX6_in : MI := (yX6_in, cX6_in, 3, (some .boolean))
set_option maxRecDepth 20000 in
theorem fX6_in : MFS mX6_in 3 := ⟨(tb_in 1069 (by decide +kernel) rfl), (tb_in 89 (by decide +kernel) rfl), (tb_in 1070 (by decide +kernel) rfl), ⟨by decide +kernel, by decide +kernel, by decide +kernel⟩⟩
abbrev mX6_fails : MI := (yX6_fails, cX6_fails, 2, (some .int))
set_option maxRecDepth 20000 in
theorem fX6_fails : MFV mX6_fails 6 1 := ⟨(tb_in 1153 (by decide +kernel) rfl), (tb_in 44 (by decide +kernel) rfl), (tb_in 89 (by decide +kernel) rfl), (tb_in 1154 (by decide +kernel) rfl), rfl, ⟨by decide +kernel, by decide +kernel, by decide +kernel⟩⟩
abbrev mX6_saves : MI := (yX6_saves, cX6_saves, 2, none)
set_option maxRecDepth 20000 in
theorem fX6_saves : MFV mX6_saves 6 0 := ⟨(tb_in 1093 (by decide +kernel) rfl), (tb_in 33 (by decide +kernel) rfl), (tb_in 89 (by decide +kernel) rfl), (tb_in 1094 (by decide +kernel) rfl), rfl, ⟨by decide +kernel, by decide +kernel, by decide +kernel⟩⟩
abbrev mX6_get : MI := (yX6_get, cX6_get, 3, (some .int))
set_option maxRecDepth 20000 in
theorem fX6_get : MFV mX6_get 6 2 := ⟨(tb_in 1085 (by decide +kernel) rfl), (tb_in 31 (by decide +kernel) rfl), (tb_in 89 (by decide +kernel) rfl), (tb_in 1086 (by decide +kernel) rfl), rfl, ⟨by decide +kernel, by decide +kernel, by decide +kernel⟩⟩
abbrev mX6_lay : MI := (yX6_lay, cX6_lay, 4, none)
set_option maxRecDepth 20000 in
theorem fX6_lay : MFV mX6_lay 6 3 := ⟨(tb_in 1105 (by decide +kernel) rfl), (tb_in 36 (by decide +kernel) rfl), (tb_in 89 (by decide +kernel) rfl), (tb_in 1106 (by decide +kernel) rfl), rfl, ⟨by decide +kernel, by decide +kernel, by decide +kernel⟩⟩
abbrev mX6_newest : MI := (yX6_newest, cX6_newest, 1, (some .int))
set_option maxRecDepth 20000 in
theorem fX6_newest : MFV mX6_newest 6 0 := ⟨(tb_in 1077 (by decide +kernel) rfl), (tb_in 29 (by decide +kernel) rfl), (tb_in 89 (by decide +kernel) rfl), (tb_in 1078 (by decide +kernel) rfl), rfl, ⟨by decide +kernel, by decide +kernel, by decide +kernel⟩⟩
abbrev mX6_isLetter : MI := (yX6_isLetter, cX6_isLetter, 1, (some .boolean))
set_option maxRecDepth 20000 in
theorem fX6_isLetter : MFS mX6_isLetter 1 := ⟨(tb_in 1066 (by decide +kernel) rfl), (tb_in 89 (by decide +kernel) rfl), (tb_in 1067 (by decide +kernel) rfl), ⟨by decide +kernel, by decide +kernel, by decide +kernel⟩⟩
abbrev mX6_isShape : MI := (yX6_isShape, cX6_isShape, 2, (some .boolean))
set_option maxRecDepth 20000 in
theorem fX6_isShape : MFV mX6_isShape 6 1 := ⟨(tb_in 1313 (by decide +kernel) rfl), (tb_in 69 (by decide +kernel) rfl), (tb_in 89 (by decide +kernel) rfl), (tb_in 1314 (by decide +kernel) rfl), rfl, ⟨by decide +kernel, by decide +kernel, by decide +kernel⟩⟩
abbrev mX6_isInUse : MI := (yX6_isInUse, cX6_isInUse, 2, (some .boolean))
set_option maxRecDepth 20000 in
theorem fX6_isInUse : MFV mX6_isInUse 6 1 := ⟨(tb_in 1169 (by decide +kernel) rfl), (tb_in 47 (by decide +kernel) rfl), (tb_in 89 (by decide +kernel) rfl), (tb_in 1170 (by decide +kernel) rfl), rfl, ⟨by decide +kernel, by decide +kernel, by decide +kernel⟩⟩
abbrev mX6_placeOf : MI := (yX6_placeOf, cX6_placeOf, 4, (some .int))
set_option maxRecDepth 20000 in
theorem fX6_placeOf : MFV mX6_placeOf 6 2 := ⟨(tb_in 1081 (by decide +kernel) rfl), (tb_in 30 (by decide +kernel) rfl), (tb_in 89 (by decide +kernel) rfl), (tb_in 1082 (by decide +kernel) rfl), rfl, ⟨by decide +kernel, by decide +kernel, by decide +kernel⟩⟩
abbrev mX6_placeOfColumn : MI := (yX6_placeOfColumn, cX6_placeOfColumn, 4, (some .int))
set_option maxRecDepth 20000 in
theorem fX6_placeOfColumn : MFV mX6_placeOfColumn 6 2 := ⟨(tb_in 1190 (by decide +kernel) rfl), (tb_in 51 (by decide +kernel) rfl), (tb_in 89 (by decide +kernel) rfl), (tb_in 1191 (by decide +kernel) rfl), rfl, ⟨by decide +kernel, by decide +kernel, by decide +kernel⟩⟩
abbrev mX6_comes : MI := (yX6_comes, cX6_comes, 6, none)
set_option maxRecDepth 20000 in
theorem fX6_comes : MFV mX6_comes 6 3 := ⟨(tb_in 1101 (by decide +kernel) rfl), (tb_in 35 (by decide +kernel) rfl), (tb_in 89 (by decide +kernel) rfl), (tb_in 1102 (by decide +kernel) rfl), rfl, ⟨by decide +kernel, by decide +kernel, by decide +kernel⟩⟩
abbrev mX6_getsColumn : MI := (yX6_getsColumn, cX6_getsColumn, 3, none)
set_option maxRecDepth 20000 in
theorem fX6_getsColumn : MFV mX6_getsColumn 6 1 := ⟨(tb_in 1109 (by decide +kernel) rfl), (tb_in 37 (by decide +kernel) rfl), (tb_in 89 (by decide +kernel) rfl), (tb_in 1110 (by decide +kernel) rfl), rfl, ⟨by decide +kernel, by decide +kernel, by decide +kernel⟩⟩
abbrev mX6_has : MI := (yX6_has, cX6_has, 2, (some .boolean))
set_option maxRecDepth 20000 in
theorem fX6_has : MFV mX6_has 6 1 := ⟨(tb_in 1073 (by decide +kernel) rfl), (tb_in 28 (by decide +kernel) rfl), (tb_in 89 (by decide +kernel) rfl), (tb_in 1074 (by decide +kernel) rfl), rfl, ⟨by decide +kernel, by decide +kernel, by decide +kernel⟩⟩
abbrev mX6_isFull : MI := (yX6_isFull, cX6_isFull, 1, (some .boolean))
set_option maxRecDepth 20000 in
theorem fX6_isFull : MFV mX6_isFull 6 0 := ⟨(tb_in 1089 (by decide +kernel) rfl), (tb_in 32 (by decide +kernel) rfl), (tb_in 89 (by decide +kernel) rfl), (tb_in 1090 (by decide +kernel) rfl), rfl, ⟨by decide +kernel, by decide +kernel, by decide +kernel⟩⟩
abbrev mX6_refusesNumber : MI := (yX6_refusesNumber, cX6_refusesNumber, 3, (some .int))
set_option maxRecDepth 20000 in
theorem fX6_refusesNumber : MFV mX6_refusesNumber 6 2 := ⟨(tb_in 1063 (by decide +kernel) rfl), (tb_in 27 (by decide +kernel) rfl), (tb_in 89 (by decide +kernel) rfl), (tb_in 1064 (by decide +kernel) rfl), rfl, ⟨by decide +kernel, by decide +kernel, by decide +kernel⟩⟩
abbrev mX6_refusesCopy : MI := (yX6_refusesCopy, cX6_refusesCopy, 4, (some .int))
set_option maxRecDepth 20000 in
theorem fX6_refusesCopy : MFV mX6_refusesCopy 6 3 := ⟨(tb_in 1117 (by decide +kernel) rfl), (tb_in 38 (by decide +kernel) rfl), (tb_in 89 (by decide +kernel) rfl), (tb_in 1118 (by decide +kernel) rfl), rfl, ⟨by decide +kernel, by decide +kernel, by decide +kernel⟩⟩
abbrev mX6_refusesDrop : MI := (yX6_refusesDrop, cX6_refusesDrop, 3, (some .int))
set_option maxRecDepth 20000 in
theorem fX6_refusesDrop : MFV mX6_refusesDrop 6 2 := ⟨(tb_in 1129 (by decide +kernel) rfl), (tb_in 40 (by decide +kernel) rfl), (tb_in 89 (by decide +kernel) rfl), (tb_in 1130 (by decide +kernel) rfl), rfl, ⟨by decide +kernel, by decide +kernel, by decide +kernel⟩⟩
abbrev mX6_refusesRename : MI := (yX6_refusesRename, cX6_refusesRename, 3, (some .int))
set_option maxRecDepth 20000 in
theorem fX6_refusesRename : MFV mX6_refusesRename 6 2 := ⟨(tb_in 1141 (by decide +kernel) rfl), (tb_in 42 (by decide +kernel) rfl), (tb_in 89 (by decide +kernel) rfl), (tb_in 1142 (by decide +kernel) rfl), rfl, ⟨by decide +kernel, by decide +kernel, by decide +kernel⟩⟩
abbrev mX6_addsNumber : MI := (yX6_addsNumber, cX6_addsNumber, 3, none)
set_option maxRecDepth 20000 in
theorem fX6_addsNumber : MFV mX6_addsNumber 6 2 := ⟨(tb_in 1097 (by decide +kernel) rfl), (tb_in 34 (by decide +kernel) rfl), (tb_in 89 (by decide +kernel) rfl), (tb_in 1098 (by decide +kernel) rfl), rfl, ⟨by decide +kernel, by decide +kernel, by decide +kernel⟩⟩
abbrev mX6_addsCopy : MI := (yX6_addsCopy, cX6_addsCopy, 6, none)
set_option maxRecDepth 20000 in
theorem fX6_addsCopy : MFV mX6_addsCopy 6 3 := ⟨(tb_in 1121 (by decide +kernel) rfl), (tb_in 39 (by decide +kernel) rfl), (tb_in 89 (by decide +kernel) rfl), (tb_in 1122 (by decide +kernel) rfl), rfl, ⟨by decide +kernel, by decide +kernel, by decide +kernel⟩⟩
abbrev mX6_drops : MI := (yX6_drops, cX6_drops, 7, none)
set_option maxRecDepth 20000 in
theorem fX6_drops : MFV mX6_drops 6 2 := ⟨(tb_in 1133 (by decide +kernel) rfl), (tb_in 41 (by decide +kernel) rfl), (tb_in 89 (by decide +kernel) rfl), (tb_in 1134 (by decide +kernel) rfl), rfl, ⟨by decide +kernel, by decide +kernel, by decide +kernel⟩⟩
abbrev mX6_renames : MI := (yX6_renames, cX6_renames, 4, none)
set_option maxRecDepth 20000 in
theorem fX6_renames : MFV mX6_renames 6 2 := ⟨(tb_in 1145 (by decide +kernel) rfl), (tb_in 43 (by decide +kernel) rfl), (tb_in 89 (by decide +kernel) rfl), (tb_in 1146 (by decide +kernel) rfl), rfl, ⟨by decide +kernel, by decide +kernel, by decide +kernel⟩⟩
abbrev mX6_addNumber : MI := (yX6_addNumber, cX6_addNumber, 3, (some .int))
set_option maxRecDepth 20000 in
theorem fX6_addNumber : MFV mX6_addNumber 6 2 := ⟨(tb_in 1058 (by decide +kernel) rfl), (tb_in 1059 (by decide +kernel) rfl), (tb_in 89 (by decide +kernel) rfl), (tb_in 1060 (by decide +kernel) rfl), rfl, ⟨by decide +kernel, by decide +kernel, by decide +kernel⟩⟩
abbrev mX6_addCopy : MI := (yX6_addCopy, cX6_addCopy, 4, (some .int))
set_option maxRecDepth 20000 in
theorem fX6_addCopy : MFV mX6_addCopy 6 3 := ⟨(tb_in 1112 (by decide +kernel) rfl), (tb_in 1113 (by decide +kernel) rfl), (tb_in 89 (by decide +kernel) rfl), (tb_in 1114 (by decide +kernel) rfl), rfl, ⟨by decide +kernel, by decide +kernel, by decide +kernel⟩⟩
abbrev mX6_drop : MI := (yX6_drop, cX6_drop, 3, (some .int))
set_option maxRecDepth 20000 in
theorem fX6_drop : MFV mX6_drop 6 2 := ⟨(tb_in 1124 (by decide +kernel) rfl), (tb_in 1125 (by decide +kernel) rfl), (tb_in 89 (by decide +kernel) rfl), (tb_in 1126 (by decide +kernel) rfl), rfl, ⟨by decide +kernel, by decide +kernel, by decide +kernel⟩⟩
abbrev mX6_rename : MI := (yX6_rename, cX6_rename, 3, (some .int))
set_option maxRecDepth 20000 in
theorem fX6_rename : MFV mX6_rename 6 2 := ⟨(tb_in 1136 (by decide +kernel) rfl), (tb_in 1137 (by decide +kernel) rfl), (tb_in 89 (by decide +kernel) rfl), (tb_in 1138 (by decide +kernel) rfl), rfl, ⟨by decide +kernel, by decide +kernel, by decide +kernel⟩⟩
abbrev mX6_rowOf : MI := (yX6_rowOf, cX6_rowOf, 3, (some .int))
set_option maxRecDepth 20000 in
theorem fX6_rowOf : MFV mX6_rowOf 6 2 := ⟨(tb_in 1186 (by decide +kernel) rfl), (tb_in 50 (by decide +kernel) rfl), (tb_in 89 (by decide +kernel) rfl), (tb_in 1187 (by decide +kernel) rfl), rfl, ⟨by decide +kernel, by decide +kernel, by decide +kernel⟩⟩
abbrev mX6_layRow : MI := (yX6_layRow, cX6_layRow, 4, none)
set_option maxRecDepth 20000 in
theorem fX6_layRow : MFV mX6_layRow 6 3 := ⟨(tb_in 1161 (by decide +kernel) rfl), (tb_in 46 (by decide +kernel) rfl), (tb_in 89 (by decide +kernel) rfl), (tb_in 1162 (by decide +kernel) rfl), rfl, ⟨by decide +kernel, by decide +kernel, by decide +kernel⟩⟩
abbrev mX6_isRow : MI := (yX6_isRow, cX6_isRow, 2, (some .boolean))
set_option maxRecDepth 20000 in
theorem fX6_isRow : MFV mX6_isRow 6 1 := ⟨(tb_in 1177 (by decide +kernel) rfl), (tb_in 48 (by decide +kernel) rfl), (tb_in 89 (by decide +kernel) rfl), (tb_in 1178 (by decide +kernel) rfl), rfl, ⟨by decide +kernel, by decide +kernel, by decide +kernel⟩⟩
abbrev mX6_goesOver : MI := (yX6_goesOver, cX6_goesOver, 5, none)
set_option maxRecDepth 20000 in
theorem fX6_goesOver : MFV mX6_goesOver 6 1 := ⟨(tb_in 1206 (by decide +kernel) rfl), (tb_in 55 (by decide +kernel) rfl), (tb_in 89 (by decide +kernel) rfl), (tb_in 1207 (by decide +kernel) rfl), rfl, ⟨by decide +kernel, by decide +kernel, by decide +kernel⟩⟩
abbrev mX6_goesBack : MI := (yX6_goesBack, cX6_goesBack, 4, none)
set_option maxRecDepth 20000 in
theorem fX6_goesBack : MFV mX6_goesBack 6 1 := ⟨(tb_in 1210 (by decide +kernel) rfl), (tb_in 56 (by decide +kernel) rfl), (tb_in 89 (by decide +kernel) rfl), (tb_in 1211 (by decide +kernel) rfl), rfl, ⟨by decide +kernel, by decide +kernel, by decide +kernel⟩⟩
abbrev mX6_goes : MI := (yX6_goes, cX6_goes, 4, none)
set_option maxRecDepth 20000 in
theorem fX6_goes : MFV mX6_goes 6 2 := ⟨(tb_in 1202 (by decide +kernel) rfl), (tb_in 54 (by decide +kernel) rfl), (tb_in 89 (by decide +kernel) rfl), (tb_in 1203 (by decide +kernel) rfl), rfl, ⟨by decide +kernel, by decide +kernel, by decide +kernel⟩⟩
abbrev mX6_reads : MI := (yX6_reads, cX6_reads, 4, none)
set_option maxRecDepth 20000 in
theorem fX6_reads : MFV mX6_reads 6 2 := ⟨(tb_in 1198 (by decide +kernel) rfl), (tb_in 53 (by decide +kernel) rfl), (tb_in 89 (by decide +kernel) rfl), (tb_in 1199 (by decide +kernel) rfl), rfl, ⟨by decide +kernel, by decide +kernel, by decide +kernel⟩⟩
abbrev mX6_rewrites : MI := (yX6_rewrites, cX6_rewrites, 4, none)
set_option maxRecDepth 20000 in
theorem fX6_rewrites : MFV mX6_rewrites 6 2 := ⟨(tb_in 1194 (by decide +kernel) rfl), (tb_in 52 (by decide +kernel) rfl), (tb_in 89 (by decide +kernel) rfl), (tb_in 1195 (by decide +kernel) rfl), rfl, ⟨by decide +kernel, by decide +kernel, by decide +kernel⟩⟩
abbrev mX6_inserts : MI := (yX6_inserts, cX6_inserts, 3, none)
set_option maxRecDepth 20000 in
theorem fX6_inserts : MFV mX6_inserts 6 1 := ⟨(tb_in 1157 (by decide +kernel) rfl), (tb_in 45 (by decide +kernel) rfl), (tb_in 89 (by decide +kernel) rfl), (tb_in 1158 (by decide +kernel) rfl), rfl, ⟨by decide +kernel, by decide +kernel, by decide +kernel⟩⟩
abbrev mX6_insert : MI := (yX6_insert, cX6_insert, 1, (some .int))
set_option maxRecDepth 20000 in
theorem fX6_insert : MFV mX6_insert 6 0 := ⟨(tb_in 1148 (by decide +kernel) rfl), (tb_in 1149 (by decide +kernel) rfl), (tb_in 89 (by decide +kernel) rfl), (tb_in 1150 (by decide +kernel) rfl), rfl, ⟨by decide +kernel, by decide +kernel, by decide +kernel⟩⟩
abbrev mX6_insertBy : MI := (yX6_insertBy, cX6_insertBy, 2, (some .int))
set_option maxRecDepth 20000 in
theorem fX6_insertBy : MFV mX6_insertBy 6 1 := ⟨(tb_in 1164 (by decide +kernel) rfl), (tb_in 1165 (by decide +kernel) rfl), (tb_in 89 (by decide +kernel) rfl), (tb_in 1166 (by decide +kernel) rfl), rfl, ⟨by decide +kernel, by decide +kernel, by decide +kernel⟩⟩
abbrev mX6_isAgainst : MI := (yX6_isAgainst, cX6_isAgainst, 7, (some .int))
set_option maxRecDepth 20000 in
theorem fX6_isAgainst : MFV mX6_isAgainst 6 3 := ⟨(tb_in 1182 (by decide +kernel) rfl), (tb_in 49 (by decide +kernel) rfl), (tb_in 89 (by decide +kernel) rfl), (tb_in 1183 (by decide +kernel) rfl), rfl, ⟨by decide +kernel, by decide +kernel, by decide +kernel⟩⟩
abbrev mX6_write : MI := (yX6_write, cX6_write, 6, (some .int))
set_option maxRecDepth 20000 in
theorem fX6_write : MFV mX6_write 6 4 := ⟨(tb_in 1172 (by decide +kernel) rfl), (tb_in 1173 (by decide +kernel) rfl), (tb_in 89 (by decide +kernel) rfl), (tb_in 1174 (by decide +kernel) rfl), rfl, ⟨by decide +kernel, by decide +kernel, by decide +kernel⟩⟩
abbrev mX6_remove : MI := (yX6_remove, cX6_remove, 4, (some .int))
set_option maxRecDepth 20000 in
theorem fX6_remove : MFV mX6_remove 6 1 := ⟨(tb_in 1213 (by decide +kernel) rfl), (tb_in 1214 (by decide +kernel) rfl), (tb_in 89 (by decide +kernel) rfl), (tb_in 1215 (by decide +kernel) rfl), rfl, ⟨by decide +kernel, by decide +kernel, by decide +kernel⟩⟩
abbrev mX6_goesOn : MI := (yX6_goesOn, cX6_goesOn, 4, (some .int))
set_option maxRecDepth 20000 in
theorem fX6_goesOn : MFV mX6_goesOn 6 1 := ⟨(tb_in 1222 (by decide +kernel) rfl), (tb_in 57 (by decide +kernel) rfl), (tb_in 89 (by decide +kernel) rfl), (tb_in 1223 (by decide +kernel) rfl), rfl, ⟨by decide +kernel, by decide +kernel, by decide +kernel⟩⟩
abbrev mX6_goOn : MI := (yX6_goOn, cX6_goOn, 2, (some .int))
set_option maxRecDepth 20000 in
theorem fX6_goOn : MFV mX6_goOn 6 1 := ⟨(tb_in 1217 (by decide +kernel) rfl), (tb_in 1218 (by decide +kernel) rfl), (tb_in 89 (by decide +kernel) rfl), (tb_in 1219 (by decide +kernel) rfl), rfl, ⟨by decide +kernel, by decide +kernel, by decide +kernel⟩⟩
abbrev mX6_isReader : MI := (yX6_isReader, cX6_isReader, 1, (some .boolean))
set_option maxRecDepth 20000 in
theorem fX6_isReader : MFS mX6_isReader 1 := ⟨(tb_in 1229 (by decide +kernel) rfl), (tb_in 89 (by decide +kernel) rfl), (tb_in 1230 (by decide +kernel) rfl), ⟨by decide +kernel, by decide +kernel, by decide +kernel⟩⟩
abbrev mX6_hold : MI := (yX6_hold, cX6_hold, 4, (some .int))
set_option maxRecDepth 20000 in
theorem fX6_hold : MFV mX6_hold 6 2 := ⟨(tb_in 1225 (by decide +kernel) rfl), (tb_in 1226 (by decide +kernel) rfl), (tb_in 89 (by decide +kernel) rfl), (tb_in 1227 (by decide +kernel) rfl), rfl, ⟨by decide +kernel, by decide +kernel, by decide +kernel⟩⟩
abbrev mX6_oldest : MI := (yX6_oldest, cX6_oldest, 3, (some .int))
set_option maxRecDepth 20000 in
theorem fX6_oldest : MFV mX6_oldest 6 0 := ⟨(tb_in 1237 (by decide +kernel) rfl), (tb_in 58 (by decide +kernel) rfl), (tb_in 89 (by decide +kernel) rfl), (tb_in 1238 (by decide +kernel) rfl), rfl, ⟨by decide +kernel, by decide +kernel, by decide +kernel⟩⟩
abbrev mX6_retire : MI := (yX6_retire, cX6_retire, 2, (some .int))
set_option maxRecDepth 20000 in
theorem fX6_retire : MFV mX6_retire 6 1 := ⟨(tb_in 1232 (by decide +kernel) rfl), (tb_in 1233 (by decide +kernel) rfl), (tb_in 89 (by decide +kernel) rfl), (tb_in 1234 (by decide +kernel) rfl), rfl, ⟨by decide +kernel, by decide +kernel, by decide +kernel⟩⟩
abbrev mX6_append : MI := (yX6_append, cX6_append, 2, (some .int))
set_option maxRecDepth 20000 in
theorem fX6_append : MFV mX6_append 6 1 := ⟨(tb_in 1240 (by decide +kernel) rfl), (tb_in 1241 (by decide +kernel) rfl), (tb_in 89 (by decide +kernel) rfl), (tb_in 1242 (by decide +kernel) rfl), rfl, ⟨by decide +kernel, by decide +kernel, by decide +kernel⟩⟩
abbrev mX6_clearBuffer : MI := (yX6_clearBuffer, cX6_clearBuffer, 2, (some .int))
set_option maxRecDepth 20000 in
theorem fX6_clearBuffer : MFV mX6_clearBuffer 6 0 := ⟨(tb_in 1244 (by decide +kernel) rfl), (tb_in 1245 (by decide +kernel) rfl), (tb_in 89 (by decide +kernel) rfl), (tb_in 1246 (by decide +kernel) rfl), rfl, ⟨by decide +kernel, by decide +kernel, by decide +kernel⟩⟩
abbrev mX6_sign : MI := (yX6_sign, cX6_sign, 1, (some .int))
set_option maxRecDepth 20000 in
theorem fX6_sign : MFV mX6_sign 6 0 := ⟨(tb_in 1261 (by decide +kernel) rfl), (tb_in 61 (by decide +kernel) rfl), (tb_in 89 (by decide +kernel) rfl), (tb_in 1262 (by decide +kernel) rfl), rfl, ⟨by decide +kernel, by decide +kernel, by decide +kernel⟩⟩
abbrev mX6_takes : MI := (yX6_takes, cX6_takes, 4, (some .int))
set_option maxRecDepth 20000 in
theorem fX6_takes : MFV mX6_takes 6 2 := ⟨(tb_in 1269 (by decide +kernel) rfl), (tb_in 63 (by decide +kernel) rfl), (tb_in 89 (by decide +kernel) rfl), (tb_in 1270 (by decide +kernel) rfl), rfl, ⟨by decide +kernel, by decide +kernel, by decide +kernel⟩⟩
abbrev mX6_number : MI := (yX6_number, cX6_number, 2, (some .int))
set_option maxRecDepth 20000 in
theorem fX6_number : MFV mX6_number 6 0 := ⟨(tb_in 1273 (by decide +kernel) rfl), (tb_in 64 (by decide +kernel) rfl), (tb_in 89 (by decide +kernel) rfl), (tb_in 1274 (by decide +kernel) rfl), rfl, ⟨by decide +kernel, by decide +kernel, by decide +kernel⟩⟩
abbrev mX6_rowsToGo : MI := (yX6_rowsToGo, cX6_rowsToGo, 2, (some .int))
set_option maxRecDepth 20000 in
theorem fX6_rowsToGo : MFV mX6_rowsToGo 6 0 := ⟨(tb_in 1281 (by decide +kernel) rfl), (tb_in 66 (by decide +kernel) rfl), (tb_in 89 (by decide +kernel) rfl), (tb_in 1282 (by decide +kernel) rfl), rfl, ⟨by decide +kernel, by decide +kernel, by decide +kernel⟩⟩
abbrev mX6_lays : MI := (yX6_lays, cX6_lays, 5, none)
set_option maxRecDepth 20000 in
theorem fX6_lays : MFV mX6_lays 6 4 := ⟨(tb_in 1277 (by decide +kernel) rfl), (tb_in 65 (by decide +kernel) rfl), (tb_in 89 (by decide +kernel) rfl), (tb_in 1278 (by decide +kernel) rfl), rfl, ⟨by decide +kernel, by decide +kernel, by decide +kernel⟩⟩
abbrev mX6_readsAdding : MI := (yX6_readsAdding, cX6_readsAdding, 4, none)
set_option maxRecDepth 20000 in
theorem fX6_readsAdding : MFV mX6_readsAdding 6 0 := ⟨(tb_in 1265 (by decide +kernel) rfl), (tb_in 62 (by decide +kernel) rfl), (tb_in 89 (by decide +kernel) rfl), (tb_in 1266 (by decide +kernel) rfl), rfl, ⟨by decide +kernel, by decide +kernel, by decide +kernel⟩⟩
abbrev mX6_readsOrder : MI := (yX6_readsOrder, cX6_readsOrder, 5, none)
set_option maxRecDepth 20000 in
theorem fX6_readsOrder : MFV mX6_readsOrder 6 0 := ⟨(tb_in 1257 (by decide +kernel) rfl), (tb_in 60 (by decide +kernel) rfl), (tb_in 89 (by decide +kernel) rfl), (tb_in 1258 (by decide +kernel) rfl), rfl, ⟨by decide +kernel, by decide +kernel, by decide +kernel⟩⟩
abbrev mX6_readsAll : MI := (yX6_readsAll, cX6_readsAll, 1, none)
set_option maxRecDepth 20000 in
theorem fX6_readsAll : MFV mX6_readsAll 6 0 := ⟨(tb_in 1253 (by decide +kernel) rfl), (tb_in 59 (by decide +kernel) rfl), (tb_in 89 (by decide +kernel) rfl), (tb_in 1254 (by decide +kernel) rfl), rfl, ⟨by decide +kernel, by decide +kernel, by decide +kernel⟩⟩
abbrev mX6_firstError : MI := (yX6_firstError, cX6_firstError, 1, (some .int))
set_option maxRecDepth 20000 in
theorem fX6_firstError : MFV mX6_firstError 6 0 := ⟨(tb_in 1248 (by decide +kernel) rfl), (tb_in 1249 (by decide +kernel) rfl), (tb_in 89 (by decide +kernel) rfl), (tb_in 1250 (by decide +kernel) rfl), rfl, ⟨by decide +kernel, by decide +kernel, by decide +kernel⟩⟩
abbrev mX6_does : MI := (yX6_does, cX6_does, 5, (some .boolean))
set_option maxRecDepth 20000 in
theorem fX6_does : MFV mX6_does 6 1 := ⟨(tb_in 1289 (by decide +kernel) rfl), (tb_in 67 (by decide +kernel) rfl), (tb_in 89 (by decide +kernel) rfl), (tb_in 1290 (by decide +kernel) rfl), rfl, ⟨by decide +kernel, by decide +kernel, by decide +kernel⟩⟩
abbrev mX6_run : MI := (yX6_run, cX6_run, 2, (some .int))
set_option maxRecDepth 20000 in
theorem fX6_run : MFV mX6_run 6 0 := ⟨(tb_in 1284 (by decide +kernel) rfl), (tb_in 1285 (by decide +kernel) rfl), (tb_in 89 (by decide +kernel) rfl), (tb_in 1286 (by decide +kernel) rfl), rfl, ⟨by decide +kernel, by decide +kernel, by decide +kernel⟩⟩
abbrev mX6_undo : MI := (yX6_undo, cX6_undo, 2, (some .int))
set_option maxRecDepth 20000 in
theorem fX6_undo : MFV mX6_undo 6 0 := ⟨(tb_in 1292 (by decide +kernel) rfl), (tb_in 1293 (by decide +kernel) rfl), (tb_in 89 (by decide +kernel) rfl), (tb_in 1294 (by decide +kernel) rfl), rfl, ⟨by decide +kernel, by decide +kernel, by decide +kernel⟩⟩
abbrev mX6_valueBy : MI := (yX6_valueBy, cX6_valueBy, 5, (some .int))
set_option maxRecDepth 20000 in
theorem fX6_valueBy : MFV mX6_valueBy 6 3 := ⟨(tb_in 1301 (by decide +kernel) rfl), (tb_in 68 (by decide +kernel) rfl), (tb_in 89 (by decide +kernel) rfl), (tb_in 1302 (by decide +kernel) rfl), rfl, ⟨by decide +kernel, by decide +kernel, by decide +kernel⟩⟩
abbrev mX6_read : MI := (yX6_read, cX6_read, 4, (some .int))
set_option maxRecDepth 20000 in
theorem fX6_read : MFV mX6_read 6 3 := ⟨(tb_in 1296 (by decide +kernel) rfl), (tb_in 1297 (by decide +kernel) rfl), (tb_in 89 (by decide +kernel) rfl), (tb_in 1298 (by decide +kernel) rfl), rfl, ⟨by decide +kernel, by decide +kernel, by decide +kernel⟩⟩
abbrev mX6_readAs : MI := (yX6_readAs, cX6_readAs, 4, (some .int))
set_option maxRecDepth 20000 in
theorem fX6_readAs : MFV mX6_readAs 6 3 := ⟨(tb_in 1304 (by decide +kernel) rfl), (tb_in 1305 (by decide +kernel) rfl), (tb_in 89 (by decide +kernel) rfl), (tb_in 1306 (by decide +kernel) rfl), rfl, ⟨by decide +kernel, by decide +kernel, by decide +kernel⟩⟩
abbrev mX6_columnOf : MI := (yX6_columnOf, cX6_columnOf, 5, (some .int))
set_option maxRecDepth 20000 in
theorem fX6_columnOf : MFV mX6_columnOf 6 3 := ⟨(tb_in 1317 (by decide +kernel) rfl), (tb_in 70 (by decide +kernel) rfl), (tb_in 89 (by decide +kernel) rfl), (tb_in 1318 (by decide +kernel) rfl), rfl, ⟨by decide +kernel, by decide +kernel, by decide +kernel⟩⟩
abbrev mX6_column : MI := (yX6_column, cX6_column, 4, (some .int))
set_option maxRecDepth 20000 in
theorem fX6_column : MFV mX6_column 6 3 := ⟨(tb_in 1308 (by decide +kernel) rfl), (tb_in 1309 (by decide +kernel) rfl), (tb_in 89 (by decide +kernel) rfl), (tb_in 1310 (by decide +kernel) rfl), rfl, ⟨by decide +kernel, by decide +kernel, by decide +kernel⟩⟩
abbrev mX6_rowsWith : MI := (yX6_rowsWith, cX6_rowsWith, 4, (some .int))
set_option maxRecDepth 20000 in
theorem fX6_rowsWith : MFV mX6_rowsWith 6 1 := ⟨(tb_in 1329 (by decide +kernel) rfl), (tb_in 72 (by decide +kernel) rfl), (tb_in 89 (by decide +kernel) rfl), (tb_in 1330 (by decide +kernel) rfl), rfl, ⟨by decide +kernel, by decide +kernel, by decide +kernel⟩⟩
abbrev mX6_readersWith : MI := (yX6_readersWith, cX6_readersWith, 4, (some .int))
set_option maxRecDepth 20000 in
theorem fX6_readersWith : MFV mX6_readersWith 6 1 := ⟨(tb_in 1333 (by decide +kernel) rfl), (tb_in 73 (by decide +kernel) rfl), (tb_in 89 (by decide +kernel) rfl), (tb_in 1334 (by decide +kernel) rfl), rfl, ⟨by decide +kernel, by decide +kernel, by decide +kernel⟩⟩
abbrev mX6_shapeOf : MI := (yX6_shapeOf, cX6_shapeOf, 5, (some .int))
set_option maxRecDepth 20000 in
theorem fX6_shapeOf : MFV mX6_shapeOf 6 2 := ⟨(tb_in 1325 (by decide +kernel) rfl), (tb_in 71 (by decide +kernel) rfl), (tb_in 89 (by decide +kernel) rfl), (tb_in 1326 (by decide +kernel) rfl), rfl, ⟨by decide +kernel, by decide +kernel, by decide +kernel⟩⟩
abbrev mX6_shape : MI := (yX6_shape, cX6_shape, 3, (some .int))
set_option maxRecDepth 20000 in
theorem fX6_shape : MFV mX6_shape 6 2 := ⟨(tb_in 1320 (by decide +kernel) rfl), (tb_in 1321 (by decide +kernel) rfl), (tb_in 89 (by decide +kernel) rfl), (tb_in 1322 (by decide +kernel) rfl), rfl, ⟨by decide +kernel, by decide +kernel, by decide +kernel⟩⟩
abbrev mX6_sumBy : MI := (yX6_sumBy, cX6_sumBy, 5, (some .int))
set_option maxRecDepth 20000 in
theorem fX6_sumBy : MFV mX6_sumBy 6 2 := ⟨(tb_in 1345 (by decide +kernel) rfl), (tb_in 75 (by decide +kernel) rfl), (tb_in 89 (by decide +kernel) rfl), (tb_in 1346 (by decide +kernel) rfl), rfl, ⟨by decide +kernel, by decide +kernel, by decide +kernel⟩⟩
abbrev mX6_tellsRow : MI := (yX6_tellsRow, cX6_tellsRow, 4, (some .int))
set_option maxRecDepth 20000 in
theorem fX6_tellsRow : MFV mX6_tellsRow 6 2 := ⟨(tb_in 1341 (by decide +kernel) rfl), (tb_in 74 (by decide +kernel) rfl), (tb_in 89 (by decide +kernel) rfl), (tb_in 1342 (by decide +kernel) rfl), rfl, ⟨by decide +kernel, by decide +kernel, by decide +kernel⟩⟩
abbrev mX6_row : MI := (yX6_row, cX6_row, 3, (some .int))
set_option maxRecDepth 20000 in
theorem fX6_row : MFV mX6_row 6 2 := ⟨(tb_in 1336 (by decide +kernel) rfl), (tb_in 1337 (by decide +kernel) rfl), (tb_in 89 (by decide +kernel) rfl), (tb_in 1338 (by decide +kernel) rfl), rfl, ⟨by decide +kernel, by decide +kernel, by decide +kernel⟩⟩
abbrev mX6_counts : MI := (yX6_counts, cX6_counts, 2, (some .int))
set_option maxRecDepth 20000 in
theorem fX6_counts : MFV mX6_counts 6 1 := ⟨(tb_in 1353 (by decide +kernel) rfl), (tb_in 76 (by decide +kernel) rfl), (tb_in 89 (by decide +kernel) rfl), (tb_in 1354 (by decide +kernel) rfl), rfl, ⟨by decide +kernel, by decide +kernel, by decide +kernel⟩⟩
abbrev mX6_count : MI := (yX6_count, cX6_count, 2, (some .int))
set_option maxRecDepth 20000 in
theorem fX6_count : MFV mX6_count 6 1 := ⟨(tb_in 1348 (by decide +kernel) rfl), (tb_in 1349 (by decide +kernel) rfl), (tb_in 89 (by decide +kernel) rfl), (tb_in 1350 (by decide +kernel) rfl), rfl, ⟨by decide +kernel, by decide +kernel, by decide +kernel⟩⟩
abbrev mX6_losses : MI := (yX6_losses, cX6_losses, 6, (some .int))
set_option maxRecDepth 20000 in
theorem fX6_losses : MFV mX6_losses 6 2 := ⟨(tb_in 1361 (by decide +kernel) rfl), (tb_in 77 (by decide +kernel) rfl), (tb_in 89 (by decide +kernel) rfl), (tb_in 1362 (by decide +kernel) rfl), rfl, ⟨by decide +kernel, by decide +kernel, by decide +kernel⟩⟩
abbrev mX6_lost : MI := (yX6_lost, cX6_lost, 3, (some .int))
set_option maxRecDepth 20000 in
theorem fX6_lost : MFV mX6_lost 6 2 := ⟨(tb_in 1356 (by decide +kernel) rfl), (tb_in 1357 (by decide +kernel) rfl), (tb_in 89 (by decide +kernel) rfl), (tb_in 1358 (by decide +kernel) rfl), rfl, ⟨by decide +kernel, by decide +kernel, by decide +kernel⟩⟩
abbrev mX6_against : MI := (yX6_against, cX6_against, 4, (some .int))
set_option maxRecDepth 20000 in
theorem fX6_against : MFV mX6_against 6 3 := ⟨(tb_in 1364 (by decide +kernel) rfl), (tb_in 1365 (by decide +kernel) rfl), (tb_in 89 (by decide +kernel) rfl), (tb_in 1366 (by decide +kernel) rfl), rfl, ⟨by decide +kernel, by decide +kernel, by decide +kernel⟩⟩
abbrev mX6_steps : MI := (yX6_steps, cX6_steps, 4, (some .int))
set_option maxRecDepth 20000 in
theorem fX6_steps : MFV mX6_steps 6 0 := ⟨(tb_in 1373 (by decide +kernel) rfl), (tb_in 78 (by decide +kernel) rfl), (tb_in 89 (by decide +kernel) rfl), (tb_in 1374 (by decide +kernel) rfl), rfl, ⟨by decide +kernel, by decide +kernel, by decide +kernel⟩⟩
abbrev mX6_toGo : MI := (yX6_toGo, cX6_toGo, 1, (some .int))
set_option maxRecDepth 20000 in
theorem fX6_toGo : MFV mX6_toGo 6 0 := ⟨(tb_in 1368 (by decide +kernel) rfl), (tb_in 1369 (by decide +kernel) rfl), (tb_in 89 (by decide +kernel) rfl), (tb_in 1370 (by decide +kernel) rfl), rfl, ⟨by decide +kernel, by decide +kernel, by decide +kernel⟩⟩
abbrev mX6_found : MI := (yX6_found, cX6_found, 6, (some .int))
set_option maxRecDepth 20000 in
theorem fX6_found : MFV mX6_found 6 3 := ⟨(tb_in 1381 (by decide +kernel) rfl), (tb_in 79 (by decide +kernel) rfl), (tb_in 89 (by decide +kernel) rfl), (tb_in 1382 (by decide +kernel) rfl), rfl, ⟨by decide +kernel, by decide +kernel, by decide +kernel⟩⟩
abbrev mX6_find : MI := (yX6_find, cX6_find, 4, (some .int))
set_option maxRecDepth 20000 in
theorem fX6_find : MFV mX6_find 6 3 := ⟨(tb_in 1376 (by decide +kernel) rfl), (tb_in 1377 (by decide +kernel) rfl), (tb_in 89 (by decide +kernel) rfl), (tb_in 1378 (by decide +kernel) rfl), rfl, ⟨by decide +kernel, by decide +kernel, by decide +kernel⟩⟩
abbrev mX6_freshShare : MI := (yX6_freshShare, cX6_freshShare, 1, (some .double))
set_option maxRecDepth 20000 in
theorem fX6_freshShare : MFV mX6_freshShare 6 0 := ⟨(tb_in 1384 (by decide +kernel) rfl), (tb_in 1385 (by decide +kernel) rfl), (tb_in 89 (by decide +kernel) rfl), (tb_in 1386 (by decide +kernel) rfl), rfl, ⟨by decide +kernel, by decide +kernel, by decide +kernel⟩⟩
abbrev mX6_hashes : MI := (yX6_hashes, cX6_hashes, 3, none)
set_option maxRecDepth 20000 in
theorem fX6_hashes : MFV mX6_hashes 6 1 := ⟨(tb_in 1394 (by decide +kernel) rfl), (tb_in 80 (by decide +kernel) rfl), (tb_in 89 (by decide +kernel) rfl), (tb_in 1395 (by decide +kernel) rfl), rfl, ⟨by decide +kernel, by decide +kernel, by decide +kernel⟩⟩
abbrev mX6_hashesRow : MI := (yX6_hashesRow, cX6_hashesRow, 4, none)
set_option maxRecDepth 20000 in
theorem fX6_hashesRow : MFV mX6_hashesRow 6 1 := ⟨(tb_in 1399 (by decide +kernel) rfl), (tb_in 81 (by decide +kernel) rfl), (tb_in 89 (by decide +kernel) rfl), (tb_in 1400 (by decide +kernel) rfl), rfl, ⟨by decide +kernel, by decide +kernel, by decide +kernel⟩⟩
abbrev mX6_digest : MI := (yX6_digest, cX6_digest, 3, (some .long))
set_option maxRecDepth 20000 in
theorem fX6_digest : MFV mX6_digest 6 0 := ⟨(tb_in 1388 (by decide +kernel) rfl), (tb_in 1389 (by decide +kernel) rfl), (tb_in 89 (by decide +kernel) rfl), (tb_in 1390 (by decide +kernel) rfl), rfl, ⟨by decide +kernel, by decide +kernel, by decide +kernel⟩⟩
abbrev mJ9_min_7cf53 : MI := (yJ9_min_7cf53, cJ9_min_7cf53, 2, (some .int))
set_option maxRecDepth 20000 in
theorem fJ9_min_7cf53 : MFS mJ9_min_7cf53 2 := ⟨(tb_in 354 (by decide +kernel) rfl), (tb_in 95 (by decide +kernel) rfl), (tb_in 355 (by decide +kernel) rfl), ⟨by decide +kernel, by decide +kernel, by decide +kernel⟩⟩
set_option maxRecDepth 20000 in
theorem qL_89 : Cond.methodLink "ShapedRowsLaw" 89 yX5_init ∈ TBg := (tb_in 101 (by decide +kernel) rfl)
set_option maxRecDepth 20000 in
theorem qX5_18 : Cond.methodLink "ShapedRows" 18 yX0_init ∈ TBg := (tb_in 193 (by decide +kernel) rfl)
set_option maxRecDepth 20000 in
theorem qL_139 : Cond.methodLink "ShapedRowsLaw" 139 yX5_clearBuffer ∈ TBg := (tb_in 230 (by decide +kernel) rfl)
set_option maxRecDepth 20000 in
theorem qX5_177 : Cond.methodLink "ShapedRows" 177 yX4_clear ∈ TBg := (tb_in 234 (by decide +kernel) rfl)
set_option maxRecDepth 20000 in
theorem qL_143 : Cond.methodLink "ShapedRowsLaw" 143 yX5_firstError ∈ TBg := (tb_in 238 (by decide +kernel) rfl)
set_option maxRecDepth 20000 in
theorem qX5_180 : Cond.methodLink "ShapedRows" 180 yX4_errorPlace ∈ TBg := (tb_in 242 (by decide +kernel) rfl)
set_option maxRecDepth 20000 in
theorem qX4_27 : Cond.methodLink "ShapedRows$Text" 27 yX4_code ∈ TBg := (tb_in 246 (by decide +kernel) rfl)
set_option maxRecDepth 20000 in
theorem qX4_31 : Cond.methodLink "ShapedRows$Text" 31 yX4_next ∈ TBg := (tb_in 253 (by decide +kernel) rfl)
set_option maxRecDepth 20000 in
theorem qX4_35 : Cond.methodLink "ShapedRows$Text" 35 yX4_mayEnd ∈ TBg := (tb_in 256 (by decide +kernel) rfl)
set_option maxRecDepth 20000 in
theorem qX4_39 : Cond.methodLink "ShapedRows$Text" 39 yX4_afterFirst ∈ TBg := (tb_in 259 (by decide +kernel) rfl)
set_option maxRecDepth 20000 in
theorem qX4_42 : Cond.methodLink "ShapedRows$Text" 42 yX4_oneOf ∈ TBg := (tb_in 262 (by decide +kernel) rfl)
set_option maxRecDepth 20000 in
theorem qX4_46 : Cond.methodLink "ShapedRows$Text" 46 yX4_afterLetter ∈ TBg := (tb_in 265 (by decide +kernel) rfl)
set_option maxRecDepth 20000 in
theorem qL_177 : Cond.methodLink "ShapedRowsLaw" 177 yX5_toGo ∈ TBg := (tb_in 268 (by decide +kernel) rfl)
set_option maxRecDepth 20000 in
theorem qX5_238 : Cond.methodLink "ShapedRows" 238 yX3_stepsLeft ∈ TBg := (tb_in 272 (by decide +kernel) rfl)
set_option maxRecDepth 20000 in
theorem qX3_84 : Cond.methodLink "ShapedRows$State" 84 yX1_size ∈ TBg := (tb_in 276 (by decide +kernel) rfl)
set_option maxRecDepth 20000 in
theorem qX3_87 : Cond.methodLink "ShapedRows$State" 87 yX1_nextRow ∈ TBg := (tb_in 280 (by decide +kernel) rfl)
set_option maxRecDepth 20000 in
theorem qX1_50 : Cond.methodLink "ShapedRows$Rows" 50 yX1_isThere ∈ TBg := (tb_in 284 (by decide +kernel) rfl)
set_option maxRecDepth 20000 in
theorem qX3_90 : Cond.methodLink "ShapedRows$State" 90 yX3_isBehind ∈ TBg := (tb_in 288 (by decide +kernel) rfl)
set_option maxRecDepth 20000 in
theorem qX3_48 : Cond.methodLink "ShapedRows$State" 48 yX1_shapeOf ∈ TBg := (tb_in 292 (by decide +kernel) rfl)
set_option maxRecDepth 20000 in
theorem qX3_94 : Cond.methodLink "ShapedRows$State" 94 yX2_newest ∈ TBg := (tb_in 297 (by decide +kernel) rfl)
set_option maxRecDepth 20000 in
theorem qL_184 : Cond.methodLink "ShapedRowsLaw" 184 yX5_freshShare ∈ TBg := (tb_in 301 (by decide +kernel) rfl)
set_option maxRecDepth 20000 in
theorem qX5_244 : Cond.methodLink "ShapedRows" 244 yX1_size ∈ TBg := (tb_in 305 (by decide +kernel) rfl)
set_option maxRecDepth 20000 in
theorem qX5_245 : Cond.methodLink "ShapedRows" 245 yX3_rowsBehind ∈ TBg := (tb_in 306 (by decide +kernel) rfl)
set_option maxRecDepth 20000 in
theorem qX3_97 : Cond.methodLink "ShapedRows$State" 97 yX3_rowsOfShape ∈ TBg := (tb_in 310 (by decide +kernel) rfl)
set_option maxRecDepth 20000 in
theorem qL_189 : Cond.methodLink "ShapedRowsLaw" 189 yX5_digest ∈ TBg := (tb_in 314 (by decide +kernel) rfl)
set_option maxRecDepth 20000 in
theorem qX5_232 : Cond.methodLink "ShapedRows" 232 yX5_counted ∈ TBg := (tb_in 319 (by decide +kernel) rfl)
set_option maxRecDepth 20000 in
theorem qX5_273 : Cond.methodLink "ShapedRows" 273 yX2_size ∈ TBg := (tb_in 323 (by decide +kernel) rfl)
set_option maxRecDepth 20000 in
theorem qX5_274 : Cond.methodLink "ShapedRows" 274 yX2_mark ∈ TBg := (tb_in 327 (by decide +kernel) rfl)
set_option maxRecDepth 20000 in
theorem qX5_277 : Cond.methodLink "ShapedRows" 277 yX1_cursor ∈ TBg := (tb_in 331 (by decide +kernel) rfl)
set_option maxRecDepth 20000 in
theorem qX5_280 : Cond.methodLink "ShapedRows" 280 yX1_rewritten ∈ TBg := (tb_in 335 (by decide +kernel) rfl)
set_option maxRecDepth 20000 in
theorem qX5_283 : Cond.methodLink "ShapedRows" 283 yX1_writes ∈ TBg := (tb_in 339 (by decide +kernel) rfl)
set_option maxRecDepth 20000 in
theorem qX5_108 : Cond.methodLink "ShapedRows" 108 yX2_newest ∈ TBg := (tb_in 343 (by decide +kernel) rfl)
set_option maxRecDepth 20000 in
theorem qX5_286 : Cond.methodLink "ShapedRows" 286 yX2_width ∈ TBg := (tb_in 344 (by decide +kernel) rfl)
set_option maxRecDepth 20000 in
theorem qX5_161 : Cond.methodLink "ShapedRows" 161 yX3_oldestNeeded ∈ TBg := (tb_in 349 (by decide +kernel) rfl)
set_option maxRecDepth 20000 in
theorem qX3_100 : Cond.methodLink "ShapedRows$State" 100 yJ9_min_7cf53 ∈ TBg := (tb_in 353 (by decide +kernel) rfl)
set_option maxRecDepth 20000 in
theorem qX3_36 : Cond.methodLink "ShapedRows$State" 36 yX3_heldBy ∈ TBg := (tb_in 356 (by decide +kernel) rfl)
set_option maxRecDepth 20000 in
theorem qX5_197 : Cond.methodLink "ShapedRows" 197 yX0_size ∈ TBg := (tb_in 361 (by decide +kernel) rfl)
set_option maxRecDepth 20000 in
theorem qX5_250 : Cond.methodLink "ShapedRows" 250 yX5_mixed ∈ TBg := (tb_in 365 (by decide +kernel) rfl)
set_option maxRecDepth 20000 in
theorem qX5_254 : Cond.methodLink "ShapedRows" 254 yX5_mixedShapes ∈ TBg := (tb_in 369 (by decide +kernel) rfl)
set_option maxRecDepth 20000 in
theorem qX5_226 : Cond.methodLink "ShapedRows" 226 yX3_shapeProperty ∈ TBg := (tb_in 373 (by decide +kernel) rfl)
set_option maxRecDepth 20000 in
theorem qX3_105 : Cond.methodLink "ShapedRows$State" 105 yX2_width ∈ TBg := (tb_in 377 (by decide +kernel) rfl)
set_option maxRecDepth 20000 in
theorem qX3_118 : Cond.methodLink "ShapedRows$State" 118 yX2_changeOf ∈ TBg := (tb_in 378 (by decide +kernel) rfl)
set_option maxRecDepth 20000 in
theorem qX3_121 : Cond.methodLink "ShapedRows$State" 121 yX3_readersOfShape ∈ TBg := (tb_in 382 (by decide +kernel) rfl)
set_option maxRecDepth 20000 in
theorem qX3_124 : Cond.methodLink "ShapedRows$State" 124 yX2_isRetired ∈ TBg := (tb_in 386 (by decide +kernel) rfl)
set_option maxRecDepth 20000 in
theorem qX3_127 : Cond.methodLink "ShapedRows$State" 127 yX2_letterMask ∈ TBg := (tb_in 390 (by decide +kernel) rfl)
set_option maxRecDepth 20000 in
theorem qX2_51 : Cond.methodLink "ShapedRows$Shapes" 51 yX2_placeOfLetter ∈ TBg := (tb_in 394 (by decide +kernel) rfl)
set_option maxRecDepth 20000 in
theorem qX5_221 : Cond.methodLink "ShapedRows" 221 yX2_columnProperty ∈ TBg := (tb_in 398 (by decide +kernel) rfl)
set_option maxRecDepth 20000 in
theorem qX2_61 : Cond.methodLink "ShapedRows$Shapes" 61 yX2_width ∈ TBg := (tb_in 402 (by decide +kernel) rfl)
set_option maxRecDepth 20000 in
theorem qX2_65 : Cond.methodLink "ShapedRows$Shapes" 65 yX2_letterAt ∈ TBg := (tb_in 403 (by decide +kernel) rfl)
set_option maxRecDepth 20000 in
theorem qX2_55 : Cond.methodLink "ShapedRows$Shapes" 55 yX2_columnAt ∈ TBg := (tb_in 407 (by decide +kernel) rfl)
set_option maxRecDepth 20000 in
theorem qX2_68 : Cond.methodLink "ShapedRows$Shapes" 68 yX2_newest ∈ TBg := (tb_in 411 (by decide +kernel) rfl)
set_option maxRecDepth 20000 in
theorem qX2_58 : Cond.methodLink "ShapedRows$Shapes" 58 yX2_placeOfColumn ∈ TBg := (tb_in 412 (by decide +kernel) rfl)
set_option maxRecDepth 20000 in
theorem qX5_258 : Cond.methodLink "ShapedRows" 258 yX5_mixedRow ∈ TBg := (tb_in 416 (by decide +kernel) rfl)
set_option maxRecDepth 20000 in
theorem qX5_229 : Cond.methodLink "ShapedRows" 229 yX3_rowProperty ∈ TBg := (tb_in 420 (by decide +kernel) rfl)
set_option maxRecDepth 20000 in
theorem qX3_130 : Cond.methodLink "ShapedRows$State" 130 yX1_rewritesOf ∈ TBg := (tb_in 424 (by decide +kernel) rfl)
set_option maxRecDepth 20000 in
theorem qX3_133 : Cond.methodLink "ShapedRows$State" 133 yX3_sumRead ∈ TBg := (tb_in 428 (by decide +kernel) rfl)
set_option maxRecDepth 20000 in
theorem qX3_61 : Cond.methodLink "ShapedRows$State" 61 yX3_valuesRead ∈ TBg := (tb_in 432 (by decide +kernel) rfl)
set_option maxRecDepth 20000 in
theorem qX3_44 : Cond.methodLink "ShapedRows$State" 44 yX1_copyValues ∈ TBg := (tb_in 436 (by decide +kernel) rfl)
set_option maxRecDepth 20000 in
theorem qX3_51 : Cond.methodLink "ShapedRows$State" 51 yX2_carryForth ∈ TBg := (tb_in 443 (by decide +kernel) rfl)
set_option maxRecDepth 20000 in
theorem qX2_97 : Cond.methodLink "ShapedRows$Shapes" 97 yJ9_min_7cf53 ∈ TBg := (tb_in 449 (by decide +kernel) rfl)
set_option maxRecDepth 20000 in
theorem qX3_54 : Cond.methodLink "ShapedRows$State" 54 yX2_carryBack ∈ TBg := (tb_in 450 (by decide +kernel) rfl)
set_option maxRecDepth 20000 in
theorem qX3_108 : Cond.methodLink "ShapedRows$State" 108 yX2_columnAt ∈ TBg := (tb_in 454 (by decide +kernel) rfl)
set_option maxRecDepth 20000 in
theorem qX5_313 : Cond.methodLink "ShapedRows" 313 yX3_valuesRead ∈ TBg := (tb_in 455 (by decide +kernel) rfl)
set_option maxRecDepth 20000 in
theorem qX5_317 : Cond.methodLink "ShapedRows" 317 yX2_columnAt ∈ TBg := (tb_in 456 (by decide +kernel) rfl)
set_option maxRecDepth 20000 in
theorem qX5_320 : Cond.methodLink "ShapedRows" 320 yX5_at ∈ TBg := (tb_in 457 (by decide +kernel) rfl)
set_option maxRecDepth 20000 in
theorem qX5_235 : Cond.methodLink "ShapedRows" 235 yX3_valuesLost ∈ TBg := (tb_in 458 (by decide +kernel) rfl)
set_option maxRecDepth 20000 in
theorem qX3_111 : Cond.methodLink "ShapedRows$State" 111 yX1_value ∈ TBg := (tb_in 462 (by decide +kernel) rfl)
set_option maxRecDepth 20000 in
theorem qX5_213 : Cond.methodLink "ShapedRows" 213 yX3_heldBy ∈ TBg := (tb_in 466 (by decide +kernel) rfl)
set_option maxRecDepth 20000 in
theorem qX5_241 : Cond.methodLink "ShapedRows" 241 yX3_rowsWith ∈ TBg := (tb_in 467 (by decide +kernel) rfl)
set_option maxRecDepth 20000 in
theorem qX3_114 : Cond.methodLink "ShapedRows$State" 114 yX3_valueRead ∈ TBg := (tb_in 471 (by decide +kernel) rfl)
set_option maxRecDepth 20000 in
theorem qX3_57 : Cond.methodLink "ShapedRows$State" 57 yX2_columnOfLetter ∈ TBg := (tb_in 475 (by decide +kernel) rfl)
set_option maxRecDepth 20000 in
theorem qX5_262 : Cond.methodLink "ShapedRows" 262 yX5_freshShare ∈ TBg := (tb_in 479 (by decide +kernel) rfl)
set_option maxRecDepth 20000 in
theorem qX5_266 : Cond.methodLink "ShapedRows" 266 yX5_bitsOfShare ∈ TBg := (tb_in 480 (by decide +kernel) rfl)
set_option maxRecDepth 20000 in
theorem qX5_270 : Cond.methodLink "ShapedRows" 270 yX5_mixedText ∈ TBg := (tb_in 486 (by decide +kernel) rfl)
set_option maxRecDepth 20000 in
theorem qX5_188 : Cond.methodLink "ShapedRows" 188 yX4_length ∈ TBg := (tb_in 490 (by decide +kernel) rfl)
set_option maxRecDepth 20000 in
theorem qX5_289 : Cond.methodLink "ShapedRows" 289 yX4_code ∈ TBg := (tb_in 494 (by decide +kernel) rfl)
set_option maxRecDepth 20000 in
theorem qL_93 : Cond.methodLink "ShapedRowsLaw" 93 yL_addNumber ∈ TBg := (tb_in 495 (by decide +kernel) rfl)
set_option maxRecDepth 20000 in
theorem qL_7 : Cond.methodLink "ShapedRowsLaw" 7 yX5_addNumber ∈ TBg := (tb_in 500 (by decide +kernel) rfl)
set_option maxRecDepth 20000 in
theorem qX5_30 : Cond.methodLink "ShapedRows" 30 yX5_isLetter ∈ TBg := (tb_in 504 (by decide +kernel) rfl)
set_option maxRecDepth 20000 in
theorem qX5_34 : Cond.methodLink "ShapedRows" 34 yX5_isNumber ∈ TBg := (tb_in 507 (by decide +kernel) rfl)
set_option maxRecDepth 20000 in
theorem qX5_48 : Cond.methodLink "ShapedRows" 48 yX2_canAdd ∈ TBg := (tb_in 578 (by decide +kernel) rfl)
set_option maxRecDepth 20000 in
theorem qX2_72 : Cond.methodLink "ShapedRows$Shapes" 72 yX2_isFull ∈ TBg := (tb_in 582 (by decide +kernel) rfl)
set_option maxRecDepth 20000 in
theorem qX2_76 : Cond.methodLink "ShapedRows$Shapes" 76 yX2_newestHas ∈ TBg := (tb_in 586 (by decide +kernel) rfl)
set_option maxRecDepth 20000 in
theorem qX5_58 : Cond.methodLink "ShapedRows" 58 yX0_save ∈ TBg := (tb_in 606 (by decide +kernel) rfl)
set_option maxRecDepth 20000 in
theorem qX0_22 : Cond.methodLink "ShapedRows$History" 22 yX0_dropOldest ∈ TBg := (tb_in 610 (by decide +kernel) rfl)
set_option maxRecDepth 20000 in
theorem qX0_25 : Cond.methodLink "ShapedRows$History" 25 yX0_slotAt ∈ TBg := (tb_in 614 (by decide +kernel) rfl)
set_option maxRecDepth 20000 in
theorem qX0_29 : Cond.methodLink "ShapedRows$History" 29 yX3_takeFrom ∈ TBg := (tb_in 618 (by decide +kernel) rfl)
set_option maxRecDepth 20000 in
theorem qX3_136 : Cond.methodLink "ShapedRows$State" 136 yX2_takeFrom ∈ TBg := (tb_in 622 (by decide +kernel) rfl)
set_option maxRecDepth 20000 in
theorem qX5_333 : Cond.methodLink "ShapedRows" 333 yJ9_min_7cf53 ∈ TBg := (tb_in 629 (by decide +kernel) rfl)
set_option maxRecDepth 20000 in
theorem qX3_140 : Cond.methodLink "ShapedRows$State" 140 yX1_takeFrom ∈ TBg := (tb_in 633 (by decide +kernel) rfl)
set_option maxRecDepth 20000 in
theorem qX5_62 : Cond.methodLink "ShapedRows" 62 yX2_extendByNumber ∈ TBg := (tb_in 639 (by decide +kernel) rfl)
set_option maxRecDepth 20000 in
theorem qX2_79 : Cond.methodLink "ShapedRows$Shapes" 79 yX2_comeBy ∈ TBg := (tb_in 643 (by decide +kernel) rfl)
set_option maxRecDepth 20000 in
theorem qX2_86 : Cond.methodLink "ShapedRows$Shapes" 86 yX2_addLast ∈ TBg := (tb_in 647 (by decide +kernel) rfl)
set_option maxRecDepth 20000 in
theorem qL_102 : Cond.methodLink "ShapedRowsLaw" 102 yL_addCopy ∈ TBg := (tb_in 651 (by decide +kernel) rfl)
set_option maxRecDepth 20000 in
theorem qL_17 : Cond.methodLink "ShapedRowsLaw" 17 yX5_addCopy ∈ TBg := (tb_in 654 (by decide +kernel) rfl)
set_option maxRecDepth 20000 in
theorem qX5_66 : Cond.methodLink "ShapedRows" 66 yX5_isLetterOrNone ∈ TBg := (tb_in 658 (by decide +kernel) rfl)
set_option maxRecDepth 20000 in
theorem qX5_71 : Cond.methodLink "ShapedRows" 71 yX2_canAddFrom ∈ TBg := (tb_in 662 (by decide +kernel) rfl)
set_option maxRecDepth 20000 in
theorem qX5_77 : Cond.methodLink "ShapedRows" 77 yX2_extendFrom ∈ TBg := (tb_in 667 (by decide +kernel) rfl)
set_option maxRecDepth 20000 in
theorem qX2_90 : Cond.methodLink "ShapedRows$Shapes" 90 yX2_columnOfLetter ∈ TBg := (tb_in 671 (by decide +kernel) rfl)
set_option maxRecDepth 20000 in
theorem qL_106 : Cond.methodLink "ShapedRowsLaw" 106 yL_drop ∈ TBg := (tb_in 672 (by decide +kernel) rfl)
set_option maxRecDepth 20000 in
theorem qL_21 : Cond.methodLink "ShapedRowsLaw" 21 yX5_drop ∈ TBg := (tb_in 675 (by decide +kernel) rfl)
set_option maxRecDepth 20000 in
theorem qX5_81 : Cond.methodLink "ShapedRows" 81 yX2_canDrop ∈ TBg := (tb_in 679 (by decide +kernel) rfl)
set_option maxRecDepth 20000 in
theorem qX5_86 : Cond.methodLink "ShapedRows" 86 yX2_leaveOut ∈ TBg := (tb_in 684 (by decide +kernel) rfl)
set_option maxRecDepth 20000 in
theorem qX2_93 : Cond.methodLink "ShapedRows$Shapes" 93 yX2_closeGap ∈ TBg := (tb_in 688 (by decide +kernel) rfl)
set_option maxRecDepth 20000 in
theorem qL_109 : Cond.methodLink "ShapedRowsLaw" 109 yL_rename ∈ TBg := (tb_in 692 (by decide +kernel) rfl)
set_option maxRecDepth 20000 in
theorem qL_24 : Cond.methodLink "ShapedRowsLaw" 24 yX5_rename ∈ TBg := (tb_in 695 (by decide +kernel) rfl)
set_option maxRecDepth 20000 in
theorem qX5_89 : Cond.methodLink "ShapedRows" 89 yX2_canRename ∈ TBg := (tb_in 699 (by decide +kernel) rfl)
set_option maxRecDepth 20000 in
theorem qX5_93 : Cond.methodLink "ShapedRows" 93 yX2_exchangeLetter ∈ TBg := (tb_in 703 (by decide +kernel) rfl)
set_option maxRecDepth 20000 in
theorem qL_112 : Cond.methodLink "ShapedRowsLaw" 112 yL_insert ∈ TBg := (tb_in 707 (by decide +kernel) rfl)
set_option maxRecDepth 20000 in
theorem qL_27 : Cond.methodLink "ShapedRowsLaw" 27 yX5_insert ∈ TBg := (tb_in 710 (by decide +kernel) rfl)
set_option maxRecDepth 20000 in
theorem qX5_100 : Cond.methodLink "ShapedRows" 100 yX1_isFull ∈ TBg := (tb_in 714 (by decide +kernel) rfl)
set_option maxRecDepth 20000 in
theorem qX5_112 : Cond.methodLink "ShapedRows" 112 yX1_addRow ∈ TBg := (tb_in 719 (by decide +kernel) rfl)
set_option maxRecDepth 20000 in
theorem qL_116 : Cond.methodLink "ShapedRowsLaw" 116 yL_insertBy ∈ TBg := (tb_in 723 (by decide +kernel) rfl)
set_option maxRecDepth 20000 in
theorem qL_31 : Cond.methodLink "ShapedRowsLaw" 31 yX5_insertBy ∈ TBg := (tb_in 727 (by decide +kernel) rfl)
set_option maxRecDepth 20000 in
theorem qX5_116 : Cond.methodLink "ShapedRows" 116 yX2_isUsable ∈ TBg := (tb_in 731 (by decide +kernel) rfl)
set_option maxRecDepth 20000 in
theorem qX2_40 : Cond.methodLink "ShapedRows$Shapes" 40 yX2_isThere ∈ TBg := (tb_in 735 (by decide +kernel) rfl)
set_option maxRecDepth 20000 in
theorem qX2_44 : Cond.methodLink "ShapedRows$Shapes" 44 yX2_isRetired ∈ TBg := (tb_in 739 (by decide +kernel) rfl)
set_option maxRecDepth 20000 in
theorem qL_120 : Cond.methodLink "ShapedRowsLaw" 120 yL_write ∈ TBg := (tb_in 756 (by decide +kernel) rfl)
set_option maxRecDepth 20000 in
theorem qL_37 : Cond.methodLink "ShapedRowsLaw" 37 yX5_write ∈ TBg := (tb_in 759 (by decide +kernel) rfl)
set_option maxRecDepth 20000 in
theorem qX5_124 : Cond.methodLink "ShapedRows" 124 yX1_isThere ∈ TBg := (tb_in 763 (by decide +kernel) rfl)
set_option maxRecDepth 20000 in
theorem qX5_129 : Cond.methodLink "ShapedRows" 129 yX5_isValue ∈ TBg := (tb_in 765 (by decide +kernel) rfl)
set_option maxRecDepth 20000 in
theorem qX5_134 : Cond.methodLink "ShapedRows" 134 yX3_refusal ∈ TBg := (tb_in 770 (by decide +kernel) rfl)
set_option maxRecDepth 20000 in
theorem qX3_65 : Cond.methodLink "ShapedRows$State" 65 yX2_hasColumn ∈ TBg := (tb_in 774 (by decide +kernel) rfl)
set_option maxRecDepth 20000 in
theorem qX5_139 : Cond.methodLink "ShapedRows" 139 yX3_writeValue ∈ TBg := (tb_in 779 (by decide +kernel) rfl)
set_option maxRecDepth 20000 in
theorem qX3_69 : Cond.methodLink "ShapedRows$State" 69 yX1_rewrite ∈ TBg := (tb_in 783 (by decide +kernel) rfl)
set_option maxRecDepth 20000 in
theorem qX1_46 : Cond.methodLink "ShapedRows$Rows" 46 yX1_rewritesOf ∈ TBg := (tb_in 787 (by decide +kernel) rfl)
set_option maxRecDepth 20000 in
theorem qX3_73 : Cond.methodLink "ShapedRows$State" 73 yX1_overwrite ∈ TBg := (tb_in 788 (by decide +kernel) rfl)
set_option maxRecDepth 20000 in
theorem qL_124 : Cond.methodLink "ShapedRowsLaw" 124 yL_remove ∈ TBg := (tb_in 792 (by decide +kernel) rfl)
set_option maxRecDepth 20000 in
theorem qL_41 : Cond.methodLink "ShapedRowsLaw" 41 yX5_remove ∈ TBg := (tb_in 795 (by decide +kernel) rfl)
set_option maxRecDepth 20000 in
theorem qX5_145 : Cond.methodLink "ShapedRows" 145 yX1_takeOut ∈ TBg := (tb_in 800 (by decide +kernel) rfl)
set_option maxRecDepth 20000 in
theorem qX1_42 : Cond.methodLink "ShapedRows$Rows" 42 yX1_moveDown ∈ TBg := (tb_in 804 (by decide +kernel) rfl)
set_option maxRecDepth 20000 in
theorem qX1_58 : Cond.methodLink "ShapedRows$Rows" 58 yX1_shapeOf ∈ TBg := (tb_in 808 (by decide +kernel) rfl)
set_option maxRecDepth 20000 in
theorem qX1_61 : Cond.methodLink "ShapedRows$Rows" 61 yX1_value ∈ TBg := (tb_in 809 (by decide +kernel) rfl)
set_option maxRecDepth 20000 in
theorem qL_127 : Cond.methodLink "ShapedRowsLaw" 127 yL_goOn ∈ TBg := (tb_in 810 (by decide +kernel) rfl)
set_option maxRecDepth 20000 in
theorem qL_44 : Cond.methodLink "ShapedRowsLaw" 44 yX5_goOn ∈ TBg := (tb_in 813 (by decide +kernel) rfl)
set_option maxRecDepth 20000 in
theorem qX5_150 : Cond.methodLink "ShapedRows" 150 yX3_stepOn ∈ TBg := (tb_in 818 (by decide +kernel) rfl)
set_option maxRecDepth 20000 in
theorem qX3_77 : Cond.methodLink "ShapedRows$State" 77 yX1_rewritten ∈ TBg := (tb_in 822 (by decide +kernel) rfl)
set_option maxRecDepth 20000 in
theorem qX3_81 : Cond.methodLink "ShapedRows$State" 81 yX3_stepOnce ∈ TBg := (tb_in 823 (by decide +kernel) rfl)
set_option maxRecDepth 20000 in
theorem qX3_147 : Cond.methodLink "ShapedRows$State" 147 yX1_setCursor ∈ TBg := (tb_in 827 (by decide +kernel) rfl)
set_option maxRecDepth 20000 in
theorem qL_130 : Cond.methodLink "ShapedRowsLaw" 130 yL_hold ∈ TBg := (tb_in 831 (by decide +kernel) rfl)
set_option maxRecDepth 20000 in
theorem qL_47 : Cond.methodLink "ShapedRowsLaw" 47 yX5_hold ∈ TBg := (tb_in 834 (by decide +kernel) rfl)
set_option maxRecDepth 20000 in
theorem qX5_153 : Cond.methodLink "ShapedRows" 153 yX5_isReader ∈ TBg := (tb_in 838 (by decide +kernel) rfl)
set_option maxRecDepth 20000 in
theorem qX5_158 : Cond.methodLink "ShapedRows" 158 yX3_letHold ∈ TBg := (tb_in 842 (by decide +kernel) rfl)
set_option maxRecDepth 20000 in
theorem qL_133 : Cond.methodLink "ShapedRowsLaw" 133 yL_retire ∈ TBg := (tb_in 847 (by decide +kernel) rfl)
set_option maxRecDepth 20000 in
theorem qL_50 : Cond.methodLink "ShapedRowsLaw" 50 yX5_retire ∈ TBg := (tb_in 850 (by decide +kernel) rfl)
set_option maxRecDepth 20000 in
theorem qX5_166 : Cond.methodLink "ShapedRows" 166 yX2_setMark ∈ TBg := (tb_in 855 (by decide +kernel) rfl)
set_option maxRecDepth 20000 in
theorem qL_136 : Cond.methodLink "ShapedRowsLaw" 136 yL_append ∈ TBg := (tb_in 859 (by decide +kernel) rfl)
set_option maxRecDepth 20000 in
theorem qL_53 : Cond.methodLink "ShapedRowsLaw" 53 yX5_append ∈ TBg := (tb_in 862 (by decide +kernel) rfl)
set_option maxRecDepth 20000 in
theorem qX5_171 : Cond.methodLink "ShapedRows" 171 yX4_isFull ∈ TBg := (tb_in 867 (by decide +kernel) rfl)
set_option maxRecDepth 20000 in
theorem qX5_174 : Cond.methodLink "ShapedRows" 174 yX4_add ∈ TBg := (tb_in 872 (by decide +kernel) rfl)
set_option maxRecDepth 20000 in
theorem qL_147 : Cond.methodLink "ShapedRowsLaw" 147 yL_run ∈ TBg := (tb_in 877 (by decide +kernel) rfl)
set_option maxRecDepth 20000 in
theorem qL_56 : Cond.methodLink "ShapedRowsLaw" 56 yX5_run ∈ TBg := (tb_in 880 (by decide +kernel) rfl)
set_option maxRecDepth 20000 in
theorem qX5_183 : Cond.methodLink "ShapedRows" 183 yX4_isComplete ∈ TBg := (tb_in 884 (by decide +kernel) rfl)
set_option maxRecDepth 20000 in
theorem qX5_191 : Cond.methodLink "ShapedRows" 191 yX4_endsOrder ∈ TBg := (tb_in 889 (by decide +kernel) rfl)
set_option maxRecDepth 20000 in
theorem qX5_194 : Cond.methodLink "ShapedRows" 194 yX5_carriesOut ∈ TBg := (tb_in 893 (by decide +kernel) rfl)
set_option maxRecDepth 20000 in
theorem qX5_292 : Cond.methodLink "ShapedRows" 292 yX5_addsNumber ∈ TBg := (tb_in 897 (by decide +kernel) rfl)
set_option maxRecDepth 20000 in
theorem qX5_310 : Cond.methodLink "ShapedRows" 310 yX4_letter ∈ TBg := (tb_in 901 (by decide +kernel) rfl)
set_option maxRecDepth 20000 in
theorem qX5_307 : Cond.methodLink "ShapedRows" 307 yX4_number ∈ TBg := (tb_in 905 (by decide +kernel) rfl)
set_option maxRecDepth 20000 in
theorem qX5_295 : Cond.methodLink "ShapedRows" 295 yX5_addsFrom ∈ TBg := (tb_in 909 (by decide +kernel) rfl)
set_option maxRecDepth 20000 in
theorem qX5_298 : Cond.methodLink "ShapedRows" 298 yX5_drops ∈ TBg := (tb_in 913 (by decide +kernel) rfl)
set_option maxRecDepth 20000 in
theorem qX5_301 : Cond.methodLink "ShapedRows" 301 yX5_renames ∈ TBg := (tb_in 917 (by decide +kernel) rfl)
set_option maxRecDepth 20000 in
theorem qX5_304 : Cond.methodLink "ShapedRows" 304 yX5_inserts ∈ TBg := (tb_in 921 (by decide +kernel) rfl)
set_option maxRecDepth 20000 in
theorem qL_150 : Cond.methodLink "ShapedRowsLaw" 150 yL_undo ∈ TBg := (tb_in 925 (by decide +kernel) rfl)
set_option maxRecDepth 20000 in
theorem qL_59 : Cond.methodLink "ShapedRowsLaw" 59 yX5_undo ∈ TBg := (tb_in 928 (by decide +kernel) rfl)
set_option maxRecDepth 20000 in
theorem qX5_202 : Cond.methodLink "ShapedRows" 202 yX0_restore ∈ TBg := (tb_in 933 (by decide +kernel) rfl)
set_option maxRecDepth 20000 in
theorem qL_153 : Cond.methodLink "ShapedRowsLaw" 153 yL_read ∈ TBg := (tb_in 937 (by decide +kernel) rfl)
set_option maxRecDepth 20000 in
theorem qL_62 : Cond.methodLink "ShapedRowsLaw" 62 yX5_read ∈ TBg := (tb_in 940 (by decide +kernel) rfl)
set_option maxRecDepth 20000 in
theorem qX5_208 : Cond.methodLink "ShapedRows" 208 yX3_valueRead ∈ TBg := (tb_in 945 (by decide +kernel) rfl)
set_option maxRecDepth 20000 in
theorem qL_156 : Cond.methodLink "ShapedRowsLaw" 156 yL_readAs ∈ TBg := (tb_in 946 (by decide +kernel) rfl)
set_option maxRecDepth 20000 in
theorem qL_65 : Cond.methodLink "ShapedRowsLaw" 65 yX5_readAs ∈ TBg := (tb_in 949 (by decide +kernel) rfl)
set_option maxRecDepth 20000 in
theorem qL_159 : Cond.methodLink "ShapedRowsLaw" 159 yL_column ∈ TBg := (tb_in 954 (by decide +kernel) rfl)
set_option maxRecDepth 20000 in
theorem qL_68 : Cond.methodLink "ShapedRowsLaw" 68 yX5_column ∈ TBg := (tb_in 957 (by decide +kernel) rfl)
set_option maxRecDepth 20000 in
theorem qX5_216 : Cond.methodLink "ShapedRows" 216 yX2_isThere ∈ TBg := (tb_in 961 (by decide +kernel) rfl)
set_option maxRecDepth 20000 in
theorem qL_162 : Cond.methodLink "ShapedRowsLaw" 162 yL_shape ∈ TBg := (tb_in 964 (by decide +kernel) rfl)
set_option maxRecDepth 20000 in
theorem qL_71 : Cond.methodLink "ShapedRowsLaw" 71 yX5_shape ∈ TBg := (tb_in 967 (by decide +kernel) rfl)
set_option maxRecDepth 20000 in
theorem qL_165 : Cond.methodLink "ShapedRowsLaw" 165 yL_row ∈ TBg := (tb_in 972 (by decide +kernel) rfl)
set_option maxRecDepth 20000 in
theorem qL_74 : Cond.methodLink "ShapedRowsLaw" 74 yX5_row ∈ TBg := (tb_in 975 (by decide +kernel) rfl)
set_option maxRecDepth 20000 in
theorem qL_168 : Cond.methodLink "ShapedRowsLaw" 168 yL_count ∈ TBg := (tb_in 979 (by decide +kernel) rfl)
set_option maxRecDepth 20000 in
theorem qL_77 : Cond.methodLink "ShapedRowsLaw" 77 yX5_count ∈ TBg := (tb_in 982 (by decide +kernel) rfl)
set_option maxRecDepth 20000 in
theorem qL_171 : Cond.methodLink "ShapedRowsLaw" 171 yL_lost ∈ TBg := (tb_in 986 (by decide +kernel) rfl)
set_option maxRecDepth 20000 in
theorem qL_80 : Cond.methodLink "ShapedRowsLaw" 80 yX5_lost ∈ TBg := (tb_in 989 (by decide +kernel) rfl)
set_option maxRecDepth 20000 in
theorem qL_174 : Cond.methodLink "ShapedRowsLaw" 174 yL_against ∈ TBg := (tb_in 993 (by decide +kernel) rfl)
set_option maxRecDepth 20000 in
theorem qL_83 : Cond.methodLink "ShapedRowsLaw" 83 yX5_against ∈ TBg := (tb_in 996 (by decide +kernel) rfl)
set_option maxRecDepth 20000 in
theorem qL_181 : Cond.methodLink "ShapedRowsLaw" 181 yL_find ∈ TBg := (tb_in 1000 (by decide +kernel) rfl)
set_option maxRecDepth 20000 in
theorem qL_86 : Cond.methodLink "ShapedRowsLaw" 86 yX5_find ∈ TBg := (tb_in 1003 (by decide +kernel) rfl)
set_option maxRecDepth 20000 in
theorem qL_92 : Cond.methodLink "ShapedRowsLaw" 92 yX6_init ∈ TBg := (tb_in 1009 (by decide +kernel) rfl)
set_option maxRecDepth 20000 in
theorem qL_99 : Cond.methodLink "ShapedRowsLaw" 99 yX6_thrown ∈ TBg := (tb_in 1053 (by decide +kernel) rfl)
set_option maxRecDepth 20000 in
theorem qL_98 : Cond.methodLink "ShapedRowsLaw" 98 yX6_addNumber ∈ TBg := (tb_in 1057 (by decide +kernel) rfl)
set_option maxRecDepth 20000 in
theorem qX6_69 : Cond.methodLink "ShapedRowsModel" 69 yX6_refusesNumber ∈ TBg := (tb_in 1061 (by decide +kernel) rfl)
set_option maxRecDepth 20000 in
theorem qX6_51 : Cond.methodLink "ShapedRowsModel" 51 yX6_isLetter ∈ TBg := (tb_in 1065 (by decide +kernel) rfl)
set_option maxRecDepth 20000 in
theorem qX6_32 : Cond.methodLink "ShapedRowsModel" 32 yX6_in ∈ TBg := (tb_in 1068 (by decide +kernel) rfl)
set_option maxRecDepth 20000 in
theorem qX6_55 : Cond.methodLink "ShapedRowsModel" 55 yX6_has ∈ TBg := (tb_in 1071 (by decide +kernel) rfl)
set_option maxRecDepth 20000 in
theorem qX6_44 : Cond.methodLink "ShapedRowsModel" 44 yX6_newest ∈ TBg := (tb_in 1075 (by decide +kernel) rfl)
set_option maxRecDepth 20000 in
theorem qX6_48 : Cond.methodLink "ShapedRowsModel" 48 yX6_placeOf ∈ TBg := (tb_in 1079 (by decide +kernel) rfl)
set_option maxRecDepth 20000 in
theorem qX6_36 : Cond.methodLink "ShapedRowsModel" 36 yX6_get ∈ TBg := (tb_in 1083 (by decide +kernel) rfl)
set_option maxRecDepth 20000 in
theorem qX6_58 : Cond.methodLink "ShapedRowsModel" 58 yX6_isFull ∈ TBg := (tb_in 1087 (by decide +kernel) rfl)
set_option maxRecDepth 20000 in
theorem qX6_72 : Cond.methodLink "ShapedRowsModel" 72 yX6_saves ∈ TBg := (tb_in 1091 (by decide +kernel) rfl)
set_option maxRecDepth 20000 in
theorem qX6_75 : Cond.methodLink "ShapedRowsModel" 75 yX6_addsNumber ∈ TBg := (tb_in 1095 (by decide +kernel) rfl)
set_option maxRecDepth 20000 in
theorem qX6_62 : Cond.methodLink "ShapedRowsModel" 62 yX6_comes ∈ TBg := (tb_in 1099 (by decide +kernel) rfl)
set_option maxRecDepth 20000 in
theorem qX6_40 : Cond.methodLink "ShapedRowsModel" 40 yX6_lay ∈ TBg := (tb_in 1103 (by decide +kernel) rfl)
set_option maxRecDepth 20000 in
theorem qX6_65 : Cond.methodLink "ShapedRowsModel" 65 yX6_getsColumn ∈ TBg := (tb_in 1107 (by decide +kernel) rfl)
set_option maxRecDepth 20000 in
theorem qL_105 : Cond.methodLink "ShapedRowsLaw" 105 yX6_addCopy ∈ TBg := (tb_in 1111 (by decide +kernel) rfl)
set_option maxRecDepth 20000 in
theorem qX6_79 : Cond.methodLink "ShapedRowsModel" 79 yX6_refusesCopy ∈ TBg := (tb_in 1115 (by decide +kernel) rfl)
set_option maxRecDepth 20000 in
theorem qX6_83 : Cond.methodLink "ShapedRowsModel" 83 yX6_addsCopy ∈ TBg := (tb_in 1119 (by decide +kernel) rfl)
set_option maxRecDepth 20000 in
theorem qL_108 : Cond.methodLink "ShapedRowsLaw" 108 yX6_drop ∈ TBg := (tb_in 1123 (by decide +kernel) rfl)
set_option maxRecDepth 20000 in
theorem qX6_86 : Cond.methodLink "ShapedRowsModel" 86 yX6_refusesDrop ∈ TBg := (tb_in 1127 (by decide +kernel) rfl)
set_option maxRecDepth 20000 in
theorem qX6_89 : Cond.methodLink "ShapedRowsModel" 89 yX6_drops ∈ TBg := (tb_in 1131 (by decide +kernel) rfl)
set_option maxRecDepth 20000 in
theorem qL_111 : Cond.methodLink "ShapedRowsLaw" 111 yX6_rename ∈ TBg := (tb_in 1135 (by decide +kernel) rfl)
set_option maxRecDepth 20000 in
theorem qX6_92 : Cond.methodLink "ShapedRowsModel" 92 yX6_refusesRename ∈ TBg := (tb_in 1139 (by decide +kernel) rfl)
set_option maxRecDepth 20000 in
theorem qX6_95 : Cond.methodLink "ShapedRowsModel" 95 yX6_renames ∈ TBg := (tb_in 1143 (by decide +kernel) rfl)
set_option maxRecDepth 20000 in
theorem qL_115 : Cond.methodLink "ShapedRowsLaw" 115 yX6_insert ∈ TBg := (tb_in 1147 (by decide +kernel) rfl)
set_option maxRecDepth 20000 in
theorem qX6_120 : Cond.methodLink "ShapedRowsModel" 120 yX6_fails ∈ TBg := (tb_in 1151 (by decide +kernel) rfl)
set_option maxRecDepth 20000 in
theorem qX6_124 : Cond.methodLink "ShapedRowsModel" 124 yX6_inserts ∈ TBg := (tb_in 1155 (by decide +kernel) rfl)
set_option maxRecDepth 20000 in
theorem qX6_117 : Cond.methodLink "ShapedRowsModel" 117 yX6_layRow ∈ TBg := (tb_in 1159 (by decide +kernel) rfl)
set_option maxRecDepth 20000 in
theorem qL_119 : Cond.methodLink "ShapedRowsLaw" 119 yX6_insertBy ∈ TBg := (tb_in 1163 (by decide +kernel) rfl)
set_option maxRecDepth 20000 in
theorem qX6_127 : Cond.methodLink "ShapedRowsModel" 127 yX6_isInUse ∈ TBg := (tb_in 1167 (by decide +kernel) rfl)
set_option maxRecDepth 20000 in
theorem qL_123 : Cond.methodLink "ShapedRowsLaw" 123 yX6_write ∈ TBg := (tb_in 1171 (by decide +kernel) rfl)
set_option maxRecDepth 20000 in
theorem qX6_133 : Cond.methodLink "ShapedRowsModel" 133 yX6_isRow ∈ TBg := (tb_in 1175 (by decide +kernel) rfl)
set_option maxRecDepth 20000 in
theorem qX6_136 : Cond.methodLink "ShapedRowsModel" 136 yX6_isAgainst ∈ TBg := (tb_in 1180 (by decide +kernel) rfl)
set_option maxRecDepth 20000 in
theorem qX6_108 : Cond.methodLink "ShapedRowsModel" 108 yX6_rowOf ∈ TBg := (tb_in 1184 (by decide +kernel) rfl)
set_option maxRecDepth 20000 in
theorem qX6_130 : Cond.methodLink "ShapedRowsModel" 130 yX6_placeOfColumn ∈ TBg := (tb_in 1188 (by decide +kernel) rfl)
set_option maxRecDepth 20000 in
theorem qX6_139 : Cond.methodLink "ShapedRowsModel" 139 yX6_rewrites ∈ TBg := (tb_in 1192 (by decide +kernel) rfl)
set_option maxRecDepth 20000 in
theorem qX6_114 : Cond.methodLink "ShapedRowsModel" 114 yX6_reads ∈ TBg := (tb_in 1196 (by decide +kernel) rfl)
set_option maxRecDepth 20000 in
theorem qX6_111 : Cond.methodLink "ShapedRowsModel" 111 yX6_goes ∈ TBg := (tb_in 1200 (by decide +kernel) rfl)
set_option maxRecDepth 20000 in
theorem qX6_102 : Cond.methodLink "ShapedRowsModel" 102 yX6_goesOver ∈ TBg := (tb_in 1204 (by decide +kernel) rfl)
set_option maxRecDepth 20000 in
theorem qX6_105 : Cond.methodLink "ShapedRowsModel" 105 yX6_goesBack ∈ TBg := (tb_in 1208 (by decide +kernel) rfl)
set_option maxRecDepth 20000 in
theorem qL_126 : Cond.methodLink "ShapedRowsLaw" 126 yX6_remove ∈ TBg := (tb_in 1212 (by decide +kernel) rfl)
set_option maxRecDepth 20000 in
theorem qL_129 : Cond.methodLink "ShapedRowsLaw" 129 yX6_goOn ∈ TBg := (tb_in 1216 (by decide +kernel) rfl)
set_option maxRecDepth 20000 in
theorem qX6_142 : Cond.methodLink "ShapedRowsModel" 142 yX6_goesOn ∈ TBg := (tb_in 1220 (by decide +kernel) rfl)
set_option maxRecDepth 20000 in
theorem qL_132 : Cond.methodLink "ShapedRowsLaw" 132 yX6_hold ∈ TBg := (tb_in 1224 (by decide +kernel) rfl)
set_option maxRecDepth 20000 in
theorem qX6_145 : Cond.methodLink "ShapedRowsModel" 145 yX6_isReader ∈ TBg := (tb_in 1228 (by decide +kernel) rfl)
set_option maxRecDepth 20000 in
theorem qL_135 : Cond.methodLink "ShapedRowsLaw" 135 yX6_retire ∈ TBg := (tb_in 1231 (by decide +kernel) rfl)
set_option maxRecDepth 20000 in
theorem qX6_148 : Cond.methodLink "ShapedRowsModel" 148 yX6_oldest ∈ TBg := (tb_in 1235 (by decide +kernel) rfl)
set_option maxRecDepth 20000 in
theorem qL_138 : Cond.methodLink "ShapedRowsLaw" 138 yX6_append ∈ TBg := (tb_in 1239 (by decide +kernel) rfl)
set_option maxRecDepth 20000 in
theorem qL_142 : Cond.methodLink "ShapedRowsLaw" 142 yX6_clearBuffer ∈ TBg := (tb_in 1243 (by decide +kernel) rfl)
set_option maxRecDepth 20000 in
theorem qL_146 : Cond.methodLink "ShapedRowsLaw" 146 yX6_firstError ∈ TBg := (tb_in 1247 (by decide +kernel) rfl)
set_option maxRecDepth 20000 in
theorem qX6_186 : Cond.methodLink "ShapedRowsModel" 186 yX6_readsAll ∈ TBg := (tb_in 1251 (by decide +kernel) rfl)
set_option maxRecDepth 20000 in
theorem qX6_183 : Cond.methodLink "ShapedRowsModel" 183 yX6_readsOrder ∈ TBg := (tb_in 1255 (by decide +kernel) rfl)
set_option maxRecDepth 20000 in
theorem qX6_161 : Cond.methodLink "ShapedRowsModel" 161 yX6_sign ∈ TBg := (tb_in 1259 (by decide +kernel) rfl)
set_option maxRecDepth 20000 in
theorem qX6_177 : Cond.methodLink "ShapedRowsModel" 177 yX6_readsAdding ∈ TBg := (tb_in 1263 (by decide +kernel) rfl)
set_option maxRecDepth 20000 in
theorem qX6_164 : Cond.methodLink "ShapedRowsModel" 164 yX6_takes ∈ TBg := (tb_in 1267 (by decide +kernel) rfl)
set_option maxRecDepth 20000 in
theorem qX6_170 : Cond.methodLink "ShapedRowsModel" 170 yX6_number ∈ TBg := (tb_in 1271 (by decide +kernel) rfl)
set_option maxRecDepth 20000 in
theorem qX6_173 : Cond.methodLink "ShapedRowsModel" 173 yX6_lays ∈ TBg := (tb_in 1275 (by decide +kernel) rfl)
set_option maxRecDepth 20000 in
theorem qX6_180 : Cond.methodLink "ShapedRowsModel" 180 yX6_rowsToGo ∈ TBg := (tb_in 1279 (by decide +kernel) rfl)
set_option maxRecDepth 20000 in
theorem qL_149 : Cond.methodLink "ShapedRowsLaw" 149 yX6_run ∈ TBg := (tb_in 1283 (by decide +kernel) rfl)
set_option maxRecDepth 20000 in
theorem qX6_189 : Cond.methodLink "ShapedRowsModel" 189 yX6_does ∈ TBg := (tb_in 1287 (by decide +kernel) rfl)
set_option maxRecDepth 20000 in
theorem qL_152 : Cond.methodLink "ShapedRowsLaw" 152 yX6_undo ∈ TBg := (tb_in 1291 (by decide +kernel) rfl)
set_option maxRecDepth 20000 in
theorem qL_155 : Cond.methodLink "ShapedRowsLaw" 155 yX6_read ∈ TBg := (tb_in 1295 (by decide +kernel) rfl)
set_option maxRecDepth 20000 in
theorem qX6_192 : Cond.methodLink "ShapedRowsModel" 192 yX6_valueBy ∈ TBg := (tb_in 1299 (by decide +kernel) rfl)
set_option maxRecDepth 20000 in
theorem qL_158 : Cond.methodLink "ShapedRowsLaw" 158 yX6_readAs ∈ TBg := (tb_in 1303 (by decide +kernel) rfl)
set_option maxRecDepth 20000 in
theorem qL_161 : Cond.methodLink "ShapedRowsLaw" 161 yX6_column ∈ TBg := (tb_in 1307 (by decide +kernel) rfl)
set_option maxRecDepth 20000 in
theorem qX6_195 : Cond.methodLink "ShapedRowsModel" 195 yX6_isShape ∈ TBg := (tb_in 1311 (by decide +kernel) rfl)
set_option maxRecDepth 20000 in
theorem qX6_198 : Cond.methodLink "ShapedRowsModel" 198 yX6_columnOf ∈ TBg := (tb_in 1315 (by decide +kernel) rfl)
set_option maxRecDepth 20000 in
theorem qL_164 : Cond.methodLink "ShapedRowsLaw" 164 yX6_shape ∈ TBg := (tb_in 1319 (by decide +kernel) rfl)
set_option maxRecDepth 20000 in
theorem qX6_207 : Cond.methodLink "ShapedRowsModel" 207 yX6_shapeOf ∈ TBg := (tb_in 1323 (by decide +kernel) rfl)
set_option maxRecDepth 20000 in
theorem qX6_201 : Cond.methodLink "ShapedRowsModel" 201 yX6_rowsWith ∈ TBg := (tb_in 1327 (by decide +kernel) rfl)
set_option maxRecDepth 20000 in
theorem qX6_204 : Cond.methodLink "ShapedRowsModel" 204 yX6_readersWith ∈ TBg := (tb_in 1331 (by decide +kernel) rfl)
set_option maxRecDepth 20000 in
theorem qL_167 : Cond.methodLink "ShapedRowsLaw" 167 yX6_row ∈ TBg := (tb_in 1335 (by decide +kernel) rfl)
set_option maxRecDepth 20000 in
theorem qX6_213 : Cond.methodLink "ShapedRowsModel" 213 yX6_tellsRow ∈ TBg := (tb_in 1339 (by decide +kernel) rfl)
set_option maxRecDepth 20000 in
theorem qX6_210 : Cond.methodLink "ShapedRowsModel" 210 yX6_sumBy ∈ TBg := (tb_in 1343 (by decide +kernel) rfl)
set_option maxRecDepth 20000 in
theorem qL_170 : Cond.methodLink "ShapedRowsLaw" 170 yX6_count ∈ TBg := (tb_in 1347 (by decide +kernel) rfl)
set_option maxRecDepth 20000 in
theorem qX6_216 : Cond.methodLink "ShapedRowsModel" 216 yX6_counts ∈ TBg := (tb_in 1351 (by decide +kernel) rfl)
set_option maxRecDepth 20000 in
theorem qL_173 : Cond.methodLink "ShapedRowsLaw" 173 yX6_lost ∈ TBg := (tb_in 1355 (by decide +kernel) rfl)
set_option maxRecDepth 20000 in
theorem qX6_219 : Cond.methodLink "ShapedRowsModel" 219 yX6_losses ∈ TBg := (tb_in 1359 (by decide +kernel) rfl)
set_option maxRecDepth 20000 in
theorem qL_176 : Cond.methodLink "ShapedRowsLaw" 176 yX6_against ∈ TBg := (tb_in 1363 (by decide +kernel) rfl)
set_option maxRecDepth 20000 in
theorem qL_180 : Cond.methodLink "ShapedRowsLaw" 180 yX6_toGo ∈ TBg := (tb_in 1367 (by decide +kernel) rfl)
set_option maxRecDepth 20000 in
theorem qX6_222 : Cond.methodLink "ShapedRowsModel" 222 yX6_steps ∈ TBg := (tb_in 1371 (by decide +kernel) rfl)
set_option maxRecDepth 20000 in
theorem qL_183 : Cond.methodLink "ShapedRowsLaw" 183 yX6_find ∈ TBg := (tb_in 1375 (by decide +kernel) rfl)
set_option maxRecDepth 20000 in
theorem qX6_225 : Cond.methodLink "ShapedRowsModel" 225 yX6_found ∈ TBg := (tb_in 1379 (by decide +kernel) rfl)
set_option maxRecDepth 20000 in
theorem qL_188 : Cond.methodLink "ShapedRowsLaw" 188 yX6_freshShare ∈ TBg := (tb_in 1383 (by decide +kernel) rfl)
set_option maxRecDepth 20000 in
theorem qL_193 : Cond.methodLink "ShapedRowsLaw" 193 yX6_digest ∈ TBg := (tb_in 1387 (by decide +kernel) rfl)
set_option maxRecDepth 20000 in
theorem qX6_234 : Cond.methodLink "ShapedRowsModel" 234 yX6_hashes ∈ TBg := (tb_in 1392 (by decide +kernel) rfl)
set_option maxRecDepth 20000 in
theorem qX6_240 : Cond.methodLink "ShapedRowsModel" 240 yX6_hashesRow ∈ TBg := (tb_in 1397 (by decide +kernel) rfl)
set_option maxRecDepth 20000 in
theorem qX6_243 : Cond.methodLink "ShapedRowsModel" 243 yX6_freshShare ∈ TBg := (tb_in 1401 (by decide +kernel) rfl)
set_option maxRecDepth 20000 in
theorem qX5_9 : ("ShapedRows", 9, yX3_init, "ShapedRows") ∈ NL := by decide +kernel
set_option maxRecDepth 20000 in
theorem qX3_11 : ("ShapedRows$State", 11, yX2_init, "ShapedRows") ∈ NL := by decide +kernel
set_option maxRecDepth 20000 in
theorem qX3_20 : ("ShapedRows$State", 20, yX1_init, "ShapedRows") ∈ NL := by decide +kernel
set_option maxRecDepth 20000 in
theorem qX0_21 : ("ShapedRows$History", 21, yX3_init, "ShapedRows") ∈ NL := by decide +kernel
set_option maxRecDepth 20000 in
theorem qX5_25 : ("ShapedRows", 25, yX4_init, "ShapedRows") ∈ NL := by decide +kernel
set_option maxRecDepth 20000 in
theorem qX4_23 : ("ShapedRows$Text", 23, yX5_at, "ShapedRows") ∈ NL := by decide +kernel
set_option maxRecDepth 20000 in
theorem qX1_34 : ("ShapedRows$Rows", 34, yX5_at, "ShapedRows") ∈ NL := by decide +kernel
set_option maxRecDepth 20000 in
theorem qX2_47 : ("ShapedRows$Shapes", 47, yX5_at, "ShapedRows") ∈ NL := by decide +kernel
set_option maxRecDepth 20000 in
theorem qX3_32 : ("ShapedRows$State", 32, yX5_at, "ShapedRows") ∈ NL := by decide +kernel
set_option maxRecDepth 20000 in
theorem qX1_38 : ("ShapedRows$Rows", 38, yX5_put, "ShapedRows") ∈ NL := by decide +kernel
set_option maxRecDepth 20000 in
theorem qX2_82 : ("ShapedRows$Shapes", 82, yX5_put, "ShapedRows") ∈ NL := by decide +kernel
set_option maxRecDepth 20000 in
theorem qX2_102 : ("ShapedRows$Shapes", 102, yX5_copyAll, "ShapedRows") ∈ NL := by decide +kernel
set_option maxRecDepth 20000 in
theorem qX1_54 : ("ShapedRows$Rows", 54, yX5_copyAll, "ShapedRows") ∈ NL := by decide +kernel
set_option maxRecDepth 20000 in
theorem qX3_143 : ("ShapedRows$State", 143, yX5_copyAll, "ShapedRows") ∈ NL := by decide +kernel
set_option maxRecDepth 20000 in
theorem qX3_40 : ("ShapedRows$State", 40, yX5_put, "ShapedRows") ∈ NL := by decide +kernel
set_option maxRecDepth 20000 in
theorem qX4_19 : ("ShapedRows$Text", 19, yX5_put, "ShapedRows") ∈ NL := by decide +kernel
set_option maxRecDepth 20000 in
theorem kX2_9 : FLk "ShapedRows$Shapes" 9 2 0 0 false .int := ⟨RX2, TX2, 9, tyX2, rfl, Nat.le_of_ble_eq_true rfl, rfl, uX2, (tb_in 119 (by decide +kernel) rfl), rfl, tyX2_ok, nmX2, rfl, rfl⟩
set_option maxRecDepth 20000 in
theorem kX2_15 : FLk "ShapedRows$Shapes" 15 2 1 0 false .int := ⟨RX2, TX2, 9, tyX2, rfl, Nat.le_of_ble_eq_true rfl, rfl, uX2, (tb_in 120 (by decide +kernel) rfl), rfl, tyX2_ok, nmX2, rfl, rfl⟩
set_option maxRecDepth 20000 in
theorem kX2_18 : FLk "ShapedRows$Shapes" 18 2 2 2 true (.array .int) := ⟨RX2, TX2, 9, tyX2, rfl, Nat.le_of_ble_eq_true rfl, rfl, uX2, (tb_in 121 (by decide +kernel) rfl), rfl, tyX2_ok, nmX2, rfl, rfl⟩
set_option maxRecDepth 20000 in
theorem kX2_22 : FLk "ShapedRows$Shapes" 22 2 3 2 true (.array .int) := ⟨RX2, TX2, 9, tyX2, rfl, Nat.le_of_ble_eq_true rfl, rfl, uX2, (tb_in 122 (by decide +kernel) rfl), rfl, tyX2_ok, nmX2, rfl, rfl⟩
set_option maxRecDepth 20000 in
theorem kX2_25 : FLk "ShapedRows$Shapes" 25 2 4 2 true (.array .int) := ⟨RX2, TX2, 9, tyX2, rfl, Nat.le_of_ble_eq_true rfl, rfl, uX2, (tb_in 123 (by decide +kernel) rfl), rfl, tyX2_ok, nmX2, rfl, rfl⟩
set_option maxRecDepth 20000 in
theorem kX2_28 : FLk "ShapedRows$Shapes" 28 2 5 2 true (.array .int) := ⟨RX2, TX2, 9, tyX2, rfl, Nat.le_of_ble_eq_true rfl, rfl, uX2, (tb_in 124 (by decide +kernel) rfl), rfl, tyX2_ok, nmX2, rfl, rfl⟩
set_option maxRecDepth 20000 in
theorem kX2_31 : FLk "ShapedRows$Shapes" 31 2 6 2 true (.array .int) := ⟨RX2, TX2, 9, tyX2, rfl, Nat.le_of_ble_eq_true rfl, rfl, uX2, (tb_in 125 (by decide +kernel) rfl), rfl, tyX2_ok, nmX2, rfl, rfl⟩
set_option maxRecDepth 20000 in
theorem kX2_34 : FLk "ShapedRows$Shapes" 34 2 7 2 true (.array .int) := ⟨RX2, TX2, 9, tyX2, rfl, Nat.le_of_ble_eq_true rfl, rfl, uX2, (tb_in 126 (by decide +kernel) rfl), rfl, tyX2_ok, nmX2, rfl, rfl⟩
set_option maxRecDepth 20000 in
theorem kX2_37 : FLk "ShapedRows$Shapes" 37 2 8 2 true (.array .int) := ⟨RX2, TX2, 9, tyX2, rfl, Nat.le_of_ble_eq_true rfl, rfl, uX2, (tb_in 127 (by decide +kernel) rfl), rfl, tyX2_ok, nmX2, rfl, rfl⟩
set_option maxRecDepth 20000 in
theorem kX1_9 : FLk "ShapedRows$Rows" 9 1 0 0 false .int := ⟨RX1, TX1, 7, tyX1, rfl, Nat.le_of_ble_eq_true rfl, rfl, uX1, (tb_in 154 (by decide +kernel) rfl), rfl, tyX1_ok, nmX1, rfl, rfl⟩
set_option maxRecDepth 20000 in
theorem kX1_15 : FLk "ShapedRows$Rows" 15 1 1 0 false .int := ⟨RX1, TX1, 7, tyX1, rfl, Nat.le_of_ble_eq_true rfl, rfl, uX1, (tb_in 155 (by decide +kernel) rfl), rfl, tyX1_ok, nmX1, rfl, rfl⟩
set_option maxRecDepth 20000 in
theorem kX1_18 : FLk "ShapedRows$Rows" 18 1 2 0 false .int := ⟨RX1, TX1, 7, tyX1, rfl, Nat.le_of_ble_eq_true rfl, rfl, uX1, (tb_in 156 (by decide +kernel) rfl), rfl, tyX1_ok, nmX1, rfl, rfl⟩
set_option maxRecDepth 20000 in
theorem kX1_21 : FLk "ShapedRows$Rows" 21 1 3 0 false .int := ⟨RX1, TX1, 7, tyX1, rfl, Nat.le_of_ble_eq_true rfl, rfl, uX1, (tb_in 157 (by decide +kernel) rfl), rfl, tyX1_ok, nmX1, rfl, rfl⟩
set_option maxRecDepth 20000 in
theorem kX1_24 : FLk "ShapedRows$Rows" 24 1 4 2 true (.array .int) := ⟨RX1, TX1, 7, tyX1, rfl, Nat.le_of_ble_eq_true rfl, rfl, uX1, (tb_in 158 (by decide +kernel) rfl), rfl, tyX1_ok, nmX1, rfl, rfl⟩
set_option maxRecDepth 20000 in
theorem kX1_28 : FLk "ShapedRows$Rows" 28 1 5 2 true (.array .int) := ⟨RX1, TX1, 7, tyX1, rfl, Nat.le_of_ble_eq_true rfl, rfl, uX1, (tb_in 159 (by decide +kernel) rfl), rfl, tyX1_ok, nmX1, rfl, rfl⟩
set_option maxRecDepth 20000 in
theorem kX1_31 : FLk "ShapedRows$Rows" 31 1 6 2 true (.array .int) := ⟨RX1, TX1, 7, tyX1, rfl, Nat.le_of_ble_eq_true rfl, rfl, uX1, (tb_in 160 (by decide +kernel) rfl), rfl, tyX1_ok, nmX1, rfl, rfl⟩
set_option maxRecDepth 20000 in
theorem kX3_12 : FLk "ShapedRows$State" 12 3 0 2 true (.object "ShapedRows$Shapes") := ⟨RX3, TX3, 4, tyX3, rfl, Nat.le_of_ble_eq_true rfl, rfl, uX3, (tb_in 176 (by decide +kernel) rfl), rfl, tyX3_ok, nmX3, rfl, rfl⟩
set_option maxRecDepth 20000 in
theorem kX5_44 : FLk "ShapedRows" 44 3 0 2 true (.object "ShapedRows$Shapes") := ⟨RX3, TX3, 4, tyX3, rfl, Nat.le_of_ble_eq_true rfl, rfl, uX3, (tb_in 177 (by decide +kernel) rfl), rfl, tyX3_ok, nmX3, rfl, rfl⟩
set_option maxRecDepth 20000 in
theorem kX3_21 : FLk "ShapedRows$State" 21 3 1 2 true (.object "ShapedRows$Rows") := ⟨RX3, TX3, 4, tyX3, rfl, Nat.le_of_ble_eq_true rfl, rfl, uX3, (tb_in 178 (by decide +kernel) rfl), rfl, tyX3_ok, nmX3, rfl, rfl⟩
set_option maxRecDepth 20000 in
theorem kX5_96 : FLk "ShapedRows" 96 3 1 2 true (.object "ShapedRows$Rows") := ⟨RX3, TX3, 4, tyX3, rfl, Nat.le_of_ble_eq_true rfl, rfl, uX3, (tb_in 179 (by decide +kernel) rfl), rfl, tyX3_ok, nmX3, rfl, rfl⟩
set_option maxRecDepth 20000 in
theorem kX3_25 : FLk "ShapedRows$State" 25 3 2 2 true (.array .int) := ⟨RX3, TX3, 4, tyX3, rfl, Nat.le_of_ble_eq_true rfl, rfl, uX3, (tb_in 180 (by decide +kernel) rfl), rfl, tyX3_ok, nmX3, rfl, rfl⟩
set_option maxRecDepth 20000 in
theorem kX3_29 : FLk "ShapedRows$State" 29 3 3 2 true (.array .int) := ⟨RX3, TX3, 4, tyX3, rfl, Nat.le_of_ble_eq_true rfl, rfl, uX3, (tb_in 181 (by decide +kernel) rfl), rfl, tyX3_ok, nmX3, rfl, rfl⟩
set_option maxRecDepth 20000 in
theorem kX0_11 : FLk "ShapedRows$History" 11 0 0 2 true (.array (.object "ShapedRows$State")) := ⟨RX0, TX0, 2, tyX0, rfl, Nat.le_of_ble_eq_true rfl, rfl, uX0, (tb_in 200 (by decide +kernel) rfl), rfl, tyX0_ok, nmX0, rfl, rfl⟩
set_option maxRecDepth 20000 in
theorem kX0_17 : FLk "ShapedRows$History" 17 0 1 0 false .int := ⟨RX0, TX0, 2, tyX0, rfl, Nat.le_of_ble_eq_true rfl, rfl, uX0, (tb_in 201 (by decide +kernel) rfl), rfl, tyX0_ok, nmX0, rfl, rfl⟩
set_option maxRecDepth 20000 in
theorem kX4_9 : FLk "ShapedRows$Text" 9 4 0 2 true (.array .int) := ⟨RX4, TX4, 2, tyX4, rfl, Nat.le_of_ble_eq_true rfl, rfl, uX4, (tb_in 213 (by decide +kernel) rfl), rfl, tyX4_ok, nmX4, rfl, rfl⟩
set_option maxRecDepth 20000 in
theorem kX4_15 : FLk "ShapedRows$Text" 15 4 1 0 false .int := ⟨RX4, TX4, 2, tyX4, rfl, Nat.le_of_ble_eq_true rfl, rfl, uX4, (tb_in 214 (by decide +kernel) rfl), rfl, tyX4_ok, nmX4, rfl, rfl⟩
set_option maxRecDepth 20000 in
theorem kX5_10 : FLk "ShapedRows" 10 5 0 2 true (.object "ShapedRows$State") := ⟨RX5, TX5, 3, tyX5, rfl, Nat.le_of_ble_eq_true rfl, rfl, uX5, (tb_in 220 (by decide +kernel) rfl), rfl, tyX5_ok, nmX5, rfl, rfl⟩
set_option maxRecDepth 20000 in
theorem kX5_19 : FLk "ShapedRows" 19 5 1 2 true (.object "ShapedRows$History") := ⟨RX5, TX5, 3, tyX5, rfl, Nat.le_of_ble_eq_true rfl, rfl, uX5, (tb_in 221 (by decide +kernel) rfl), rfl, tyX5_ok, nmX5, rfl, rfl⟩
set_option maxRecDepth 20000 in
theorem kX5_26 : FLk "ShapedRows" 26 5 2 2 true (.object "ShapedRows$Text") := ⟨RX5, TX5, 3, tyX5, rfl, Nat.le_of_ble_eq_true rfl, rfl, uX5, (tb_in 222 (by decide +kernel) rfl), rfl, tyX5_ok, nmX5, rfl, rfl⟩
set_option maxRecDepth 20000 in
theorem kX6_25 : FLk "ShapedRowsModel" 25 6 0 0 false .int := ⟨RX6, TX6, 13, tyX6, rfl, Nat.le_of_ble_eq_true rfl, rfl, uX6, (tb_in 1013 (by decide +kernel) rfl), rfl, tyX6_ok, nmX6, rfl, rfl⟩
set_option maxRecDepth 20000 in
theorem kX6_7 : FLk "ShapedRowsModel" 7 6 1 2 true (.array .int) := ⟨RX6, TX6, 13, tyX6, rfl, Nat.le_of_ble_eq_true rfl, rfl, uX6, (tb_in 1014 (by decide +kernel) rfl), rfl, tyX6_ok, nmX6, rfl, rfl⟩
set_option maxRecDepth 20000 in
theorem kX6_13 : FLk "ShapedRowsModel" 13 6 2 2 true (.array .int) := ⟨RX6, TX6, 13, tyX6, rfl, Nat.le_of_ble_eq_true rfl, rfl, uX6, (tb_in 1015 (by decide +kernel) rfl), rfl, tyX6_ok, nmX6, rfl, rfl⟩
set_option maxRecDepth 20000 in
theorem kX6_29 : FLk "ShapedRowsModel" 29 6 3 0 false .int := ⟨RX6, TX6, 13, tyX6, rfl, Nat.le_of_ble_eq_true rfl, rfl, uX6, (tb_in 1016 (by decide +kernel) rfl), rfl, tyX6_ok, nmX6, rfl, rfl⟩
set_option maxRecDepth 20000 in
theorem kX6_16 : FLk "ShapedRowsModel" 16 6 4 2 true (.array .int) := ⟨RX6, TX6, 13, tyX6, rfl, Nat.le_of_ble_eq_true rfl, rfl, uX6, (tb_in 1017 (by decide +kernel) rfl), rfl, tyX6_ok, nmX6, rfl, rfl⟩
set_option maxRecDepth 20000 in
theorem kX6_151 : FLk "ShapedRowsModel" 151 6 5 0 false .int := ⟨RX6, TX6, 13, tyX6, rfl, Nat.le_of_ble_eq_true rfl, rfl, uX6, (tb_in 1018 (by decide +kernel) rfl), rfl, tyX6_ok, nmX6, rfl, rfl⟩
set_option maxRecDepth 20000 in
theorem kX6_19 : FLk "ShapedRowsModel" 19 6 6 2 true (.array .int) := ⟨RX6, TX6, 13, tyX6, rfl, Nat.le_of_ble_eq_true rfl, rfl, uX6, (tb_in 1019 (by decide +kernel) rfl), rfl, tyX6_ok, nmX6, rfl, rfl⟩
set_option maxRecDepth 20000 in
theorem kX6_98 : FLk "ShapedRowsModel" 98 6 7 0 false .int := ⟨RX6, TX6, 13, tyX6, rfl, Nat.le_of_ble_eq_true rfl, rfl, uX6, (tb_in 1020 (by decide +kernel) rfl), rfl, tyX6_ok, nmX6, rfl, rfl⟩
set_option maxRecDepth 20000 in
theorem kX6_154 : FLk "ShapedRowsModel" 154 6 8 0 false .int := ⟨RX6, TX6, 13, tyX6, rfl, Nat.le_of_ble_eq_true rfl, rfl, uX6, (tb_in 1021 (by decide +kernel) rfl), rfl, tyX6_ok, nmX6, rfl, rfl⟩
set_option maxRecDepth 20000 in
theorem kX6_157 : FLk "ShapedRowsModel" 157 6 9 0 false .boolean := ⟨RX6, TX6, 13, tyX6, rfl, Nat.le_of_ble_eq_true rfl, rfl, uX6, (tb_in 1022 (by decide +kernel) rfl), rfl, tyX6_ok, nmX6, rfl, rfl⟩
set_option maxRecDepth 20000 in
theorem kX6_22 : FLk "ShapedRowsModel" 22 6 10 2 true (.array .int) := ⟨RX6, TX6, 13, tyX6, rfl, Nat.le_of_ble_eq_true rfl, rfl, uX6, (tb_in 1023 (by decide +kernel) rfl), rfl, tyX6_ok, nmX6, rfl, rfl⟩
set_option maxRecDepth 20000 in
theorem kX6_167 : FLk "ShapedRowsModel" 167 6 11 0 false .int := ⟨RX6, TX6, 13, tyX6, rfl, Nat.le_of_ble_eq_true rfl, rfl, uX6, (tb_in 1024 (by decide +kernel) rfl), rfl, tyX6_ok, nmX6, rfl, rfl⟩
set_option maxRecDepth 20000 in
theorem kX6_230 : FLk "ShapedRowsModel" 230 6 12 1 false .long := ⟨RX6, TX6, 13, tyX6, rfl, Nat.le_of_ble_eq_true rfl, rfl, uX6, (tb_in 1025 (by decide +kernel) rfl), rfl, tyX6_ok, nmX6, rfl, rfl⟩

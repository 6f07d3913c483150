set_option maxRecDepth 20000 in
theorem uX0 : ∀ w ∈ u_ws RX0 TX0 2, w ∈ TBg := by decide +kernel
set_option maxRecDepth 20000 in
theorem uX1 : ∀ w ∈ u_ws RX1 TX1 7, w ∈ TBg := by decide +kernel
set_option maxRecDepth 20000 in
theorem uX2 : ∀ w ∈ u_ws RX2 TX2 9, w ∈ TBg := by decide +kernel
set_option maxRecDepth 20000 in
theorem uX3 : ∀ w ∈ u_ws RX3 TX3 4, w ∈ TBg := by decide +kernel
set_option maxRecDepth 20000 in
theorem uX4 : ∀ w ∈ u_ws RX4 TX4 2, w ∈ TBg := by decide +kernel
set_option maxRecDepth 20000 in
theorem uX5 : ∀ w ∈ u_ws RX5 TX5 3, w ∈ TBg := by decide +kernel
abbrev mX0_init : MI := (yX0_init, cX0_init, 2, none)
set_option maxRecDepth 20000 in
theorem fX0_init : MFI mX0_init 0 := ⟨rfl, rfl, (tb_in 131 (by decide +kernel) rfl), (tb_in 26 (by decide +kernel) rfl), (tb_in 132 (by decide +kernel) rfl), ⟨by decide +kernel, by decide +kernel, by decide +kernel⟩⟩
abbrev mX0_size : MI := (yX0_size, cX0_size, 1, (some .int))
set_option maxRecDepth 20000 in
theorem fX0_size : MFV mX0_size 0 0 := ⟨(tb_in 172 (by decide +kernel) rfl), (tb_in 173 (by decide +kernel) rfl), (tb_in 26 (by decide +kernel) rfl), (tb_in 174 (by decide +kernel) rfl), rfl, ⟨by decide +kernel, by decide +kernel, by decide +kernel⟩⟩
abbrev mX0_save : MI := (yX0_save, cX0_save, 3, none)
set_option maxRecDepth 20000 in
theorem fX0_save : MFV mX0_save 0 1 := ⟨(tb_in 575 (by decide +kernel) rfl), (tb_in 576 (by decide +kernel) rfl), (tb_in 26 (by decide +kernel) rfl), (tb_in 577 (by decide +kernel) rfl), rfl, ⟨by decide +kernel, by decide +kernel, by decide +kernel⟩⟩
abbrev mX0_restore : MI := (yX0_restore, cX0_restore, 3, (some .int))
set_option maxRecDepth 20000 in
theorem fX0_restore : MFV mX0_restore 0 1 := ⟨(tb_in 244 (by decide +kernel) rfl), (tb_in 245 (by decide +kernel) rfl), (tb_in 26 (by decide +kernel) rfl), (tb_in 246 (by decide +kernel) rfl), rfl, ⟨by decide +kernel, by decide +kernel, by decide +kernel⟩⟩
abbrev mX0_slotAt : MI := (yX0_slotAt, cX0_slotAt, 2, (some (.object "ShapedRows$State")))
set_option maxRecDepth 20000 in
theorem fX0_slotAt : MFV mX0_slotAt 0 1 := ⟨(tb_in 249 (by decide +kernel) rfl), (tb_in 1 (by decide +kernel) rfl), (tb_in 26 (by decide +kernel) rfl), (tb_in 250 (by decide +kernel) rfl), rfl, ⟨by decide +kernel, by decide +kernel, by decide +kernel⟩⟩
abbrev mX0_dropOldest : MI := (yX0_dropOldest, cX0_dropOldest, 3, none)
set_option maxRecDepth 20000 in
theorem fX0_dropOldest : MFV mX0_dropOldest 0 0 := ⟨(tb_in 580 (by decide +kernel) rfl), (tb_in 15 (by decide +kernel) rfl), (tb_in 26 (by decide +kernel) rfl), (tb_in 581 (by decide +kernel) rfl), rfl, ⟨by decide +kernel, by decide +kernel, by decide +kernel⟩⟩
abbrev mX1_init : MI := (yX1_init, cX1_init, 1, none)
set_option maxRecDepth 20000 in
theorem fX1_init : MFI mX1_init 0 := ⟨rfl, rfl, (tb_in 88 (by decide +kernel) rfl), (tb_in 25 (by decide +kernel) rfl), (tb_in 89 (by decide +kernel) rfl), ⟨by decide +kernel, by decide +kernel, by decide +kernel⟩⟩
abbrev mX1_size : MI := (yX1_size, cX1_size, 1, (some .int))
set_option maxRecDepth 20000 in
theorem fX1_size : MFV mX1_size 1 0 := ⟨(tb_in 307 (by decide +kernel) rfl), (tb_in 308 (by decide +kernel) rfl), (tb_in 25 (by decide +kernel) rfl), (tb_in 309 (by decide +kernel) rfl), rfl, ⟨by decide +kernel, by decide +kernel, by decide +kernel⟩⟩
abbrev mX1_cursor : MI := (yX1_cursor, cX1_cursor, 1, (some .int))
set_option maxRecDepth 20000 in
theorem fX1_cursor : MFV mX1_cursor 1 0 := ⟨(tb_in 331 (by decide +kernel) rfl), (tb_in 332 (by decide +kernel) rfl), (tb_in 25 (by decide +kernel) rfl), (tb_in 333 (by decide +kernel) rfl), rfl, ⟨by decide +kernel, by decide +kernel, by decide +kernel⟩⟩
abbrev mX1_rewritten : MI := (yX1_rewritten, cX1_rewritten, 1, (some .int))
set_option maxRecDepth 20000 in
theorem fX1_rewritten : MFV mX1_rewritten 1 0 := ⟨(tb_in 335 (by decide +kernel) rfl), (tb_in 336 (by decide +kernel) rfl), (tb_in 25 (by decide +kernel) rfl), (tb_in 337 (by decide +kernel) rfl), rfl, ⟨by decide +kernel, by decide +kernel, by decide +kernel⟩⟩
abbrev mX1_writes : MI := (yX1_writes, cX1_writes, 1, (some .int))
set_option maxRecDepth 20000 in
theorem fX1_writes : MFV mX1_writes 1 0 := ⟨(tb_in 339 (by decide +kernel) rfl), (tb_in 340 (by decide +kernel) rfl), (tb_in 25 (by decide +kernel) rfl), (tb_in 341 (by decide +kernel) rfl), rfl, ⟨by decide +kernel, by decide +kernel, by decide +kernel⟩⟩
abbrev mX1_isThere : MI := (yX1_isThere, cX1_isThere, 2, (some .boolean))
set_option maxRecDepth 20000 in
theorem fX1_isThere : MFV mX1_isThere 1 1 := ⟨(tb_in 474 (by decide +kernel) rfl), (tb_in 475 (by decide +kernel) rfl), (tb_in 25 (by decide +kernel) rfl), (tb_in 476 (by decide +kernel) rfl), rfl, ⟨by decide +kernel, by decide +kernel, by decide +kernel⟩⟩
abbrev mX1_isFull : MI := (yX1_isFull, cX1_isFull, 1, (some .boolean))
set_option maxRecDepth 20000 in
theorem fX1_isFull : MFV mX1_isFull 1 0 := ⟨(tb_in 653 (by decide +kernel) rfl), (tb_in 654 (by decide +kernel) rfl), (tb_in 25 (by decide +kernel) rfl), (tb_in 655 (by decide +kernel) rfl), rfl, ⟨by decide +kernel, by decide +kernel, by decide +kernel⟩⟩
abbrev mX1_shapeOf : MI := (yX1_shapeOf, cX1_shapeOf, 2, (some .int))
set_option maxRecDepth 20000 in
theorem fX1_shapeOf : MFV mX1_shapeOf 1 1 := ⟨(tb_in 324 (by decide +kernel) rfl), (tb_in 325 (by decide +kernel) rfl), (tb_in 25 (by decide +kernel) rfl), (tb_in 326 (by decide +kernel) rfl), rfl, ⟨by decide +kernel, by decide +kernel, by decide +kernel⟩⟩
abbrev mX1_rewritesOf : MI := (yX1_rewritesOf, cX1_rewritesOf, 2, (some .int))
set_option maxRecDepth 20000 in
theorem fX1_rewritesOf : MFV mX1_rewritesOf 1 1 := ⟨(tb_in 423 (by decide +kernel) rfl), (tb_in 424 (by decide +kernel) rfl), (tb_in 25 (by decide +kernel) rfl), (tb_in 425 (by decide +kernel) rfl), rfl, ⟨by decide +kernel, by decide +kernel, by decide +kernel⟩⟩
abbrev mX1_value : MI := (yX1_value, cX1_value, 3, (some .int))
set_option maxRecDepth 20000 in
theorem fX1_value : MFV mX1_value 1 2 := ⟨(tb_in 461 (by decide +kernel) rfl), (tb_in 462 (by decide +kernel) rfl), (tb_in 25 (by decide +kernel) rfl), (tb_in 463 (by decide +kernel) rfl), rfl, ⟨by decide +kernel, by decide +kernel, by decide +kernel⟩⟩
abbrev mX1_addRow : MI := (yX1_addRow, cX1_addRow, 4, (some .int))
set_option maxRecDepth 20000 in
theorem fX1_addRow : MFV mX1_addRow 1 1 := ⟨(tb_in 658 (by decide +kernel) rfl), (tb_in 659 (by decide +kernel) rfl), (tb_in 25 (by decide +kernel) rfl), (tb_in 660 (by decide +kernel) rfl), rfl, ⟨by decide +kernel, by decide +kernel, by decide +kernel⟩⟩
abbrev mX1_takeOut : MI := (yX1_takeOut, cX1_takeOut, 3, (some .int))
set_option maxRecDepth 20000 in
theorem fX1_takeOut : MFV mX1_takeOut 1 1 := ⟨(tb_in 691 (by decide +kernel) rfl), (tb_in 692 (by decide +kernel) rfl), (tb_in 25 (by decide +kernel) rfl), (tb_in 693 (by decide +kernel) rfl), rfl, ⟨by decide +kernel, by decide +kernel, by decide +kernel⟩⟩
abbrev mX1_overwrite : MI := (yX1_overwrite, cX1_overwrite, 4, none)
set_option maxRecDepth 20000 in
theorem fX1_overwrite : MFV mX1_overwrite 1 3 := ⟨(tb_in 758 (by decide +kernel) rfl), (tb_in 759 (by decide +kernel) rfl), (tb_in 25 (by decide +kernel) rfl), (tb_in 760 (by decide +kernel) rfl), rfl, ⟨by decide +kernel, by decide +kernel, by decide +kernel⟩⟩
abbrev mX1_rewrite : MI := (yX1_rewrite, cX1_rewrite, 5, none)
set_option maxRecDepth 20000 in
theorem fX1_rewrite : MFV mX1_rewrite 1 3 := ⟨(tb_in 676 (by decide +kernel) rfl), (tb_in 677 (by decide +kernel) rfl), (tb_in 25 (by decide +kernel) rfl), (tb_in 678 (by decide +kernel) rfl), rfl, ⟨by decide +kernel, by decide +kernel, by decide +kernel⟩⟩
abbrev mX1_nextRow : MI := (yX1_nextRow, cX1_nextRow, 1, (some .int))
set_option maxRecDepth 20000 in
theorem fX1_nextRow : MFV mX1_nextRow 1 0 := ⟨(tb_in 470 (by decide +kernel) rfl), (tb_in 471 (by decide +kernel) rfl), (tb_in 25 (by decide +kernel) rfl), (tb_in 472 (by decide +kernel) rfl), rfl, ⟨by decide +kernel, by decide +kernel, by decide +kernel⟩⟩
abbrev mX1_setCursor : MI := (yX1_setCursor, cX1_setCursor, 2, none)
set_option maxRecDepth 20000 in
theorem fX1_setCursor : MFV mX1_setCursor 1 1 := ⟨(tb_in 681 (by decide +kernel) rfl), (tb_in 682 (by decide +kernel) rfl), (tb_in 25 (by decide +kernel) rfl), (tb_in 683 (by decide +kernel) rfl), rfl, ⟨by decide +kernel, by decide +kernel, by decide +kernel⟩⟩
abbrev mX1_copyValues : MI := (yX1_copyValues, cX1_copyValues, 4, none)
set_option maxRecDepth 20000 in
theorem fX1_copyValues : MFV mX1_copyValues 1 2 := ⟨(tb_in 435 (by decide +kernel) rfl), (tb_in 436 (by decide +kernel) rfl), (tb_in 25 (by decide +kernel) rfl), (tb_in 437 (by decide +kernel) rfl), rfl, ⟨by decide +kernel, by decide +kernel, by decide +kernel⟩⟩
abbrev mX1_takeFrom : MI := (yX1_takeFrom, cX1_takeFrom, 2, none)
set_option maxRecDepth 20000 in
theorem fX1_takeFrom : MFV mX1_takeFrom 1 1 := ⟨(tb_in 269 (by decide +kernel) rfl), (tb_in 270 (by decide +kernel) rfl), (tb_in 25 (by decide +kernel) rfl), (tb_in 271 (by decide +kernel) rfl), rfl, ⟨by decide +kernel, by decide +kernel, by decide +kernel⟩⟩
abbrev mX1_moveDown : MI := (yX1_moveDown, cX1_moveDown, 3, none)
set_option maxRecDepth 20000 in
theorem fX1_moveDown : MFV mX1_moveDown 1 1 := ⟨(tb_in 696 (by decide +kernel) rfl), (tb_in 20 (by decide +kernel) rfl), (tb_in 25 (by decide +kernel) rfl), (tb_in 697 (by decide +kernel) rfl), rfl, ⟨by decide +kernel, by decide +kernel, by decide +kernel⟩⟩
abbrev mX2_init : MI := (yX2_init, cX2_init, 1, none)
set_option maxRecDepth 20000 in
theorem fX2_init : MFI mX2_init 0 := ⟨rfl, rfl, (tb_in 53 (by decide +kernel) rfl), (tb_in 24 (by decide +kernel) rfl), (tb_in 54 (by decide +kernel) rfl), ⟨by decide +kernel, by decide +kernel, by decide +kernel⟩⟩
abbrev mX2_size : MI := (yX2_size, cX2_size, 1, (some .int))
set_option maxRecDepth 20000 in
theorem fX2_size : MFV mX2_size 2 0 := ⟨(tb_in 299 (by decide +kernel) rfl), (tb_in 300 (by decide +kernel) rfl), (tb_in 24 (by decide +kernel) rfl), (tb_in 301 (by decide +kernel) rfl), rfl, ⟨by decide +kernel, by decide +kernel, by decide +kernel⟩⟩
abbrev mX2_mark : MI := (yX2_mark, cX2_mark, 1, (some .int))
set_option maxRecDepth 20000 in
theorem fX2_mark : MFV mX2_mark 2 0 := ⟨(tb_in 303 (by decide +kernel) rfl), (tb_in 304 (by decide +kernel) rfl), (tb_in 24 (by decide +kernel) rfl), (tb_in 305 (by decide +kernel) rfl), rfl, ⟨by decide +kernel, by decide +kernel, by decide +kernel⟩⟩
abbrev mX2_newest : MI := (yX2_newest, cX2_newest, 1, (some .int))
set_option maxRecDepth 20000 in
theorem fX2_newest : MFV mX2_newest 2 0 := ⟨(tb_in 316 (by decide +kernel) rfl), (tb_in 317 (by decide +kernel) rfl), (tb_in 24 (by decide +kernel) rfl), (tb_in 318 (by decide +kernel) rfl), rfl, ⟨by decide +kernel, by decide +kernel, by decide +kernel⟩⟩
abbrev mX2_isThere : MI := (yX2_isThere, cX2_isThere, 2, (some .boolean))
set_option maxRecDepth 20000 in
theorem fX2_isThere : MFV mX2_isThere 2 1 := ⟨(tb_in 527 (by decide +kernel) rfl), (tb_in 528 (by decide +kernel) rfl), (tb_in 24 (by decide +kernel) rfl), (tb_in 529 (by decide +kernel) rfl), rfl, ⟨by decide +kernel, by decide +kernel, by decide +kernel⟩⟩
abbrev mX2_isRetired : MI := (yX2_isRetired, cX2_isRetired, 2, (some .boolean))
set_option maxRecDepth 20000 in
theorem fX2_isRetired : MFV mX2_isRetired 2 1 := ⟨(tb_in 385 (by decide +kernel) rfl), (tb_in 386 (by decide +kernel) rfl), (tb_in 24 (by decide +kernel) rfl), (tb_in 387 (by decide +kernel) rfl), rfl, ⟨by decide +kernel, by decide +kernel, by decide +kernel⟩⟩
abbrev mX2_isUsable : MI := (yX2_isUsable, cX2_isUsable, 2, (some .boolean))
set_option maxRecDepth 20000 in
theorem fX2_isUsable : MFV mX2_isUsable 2 1 := ⟨(tb_in 646 (by decide +kernel) rfl), (tb_in 647 (by decide +kernel) rfl), (tb_in 24 (by decide +kernel) rfl), (tb_in 648 (by decide +kernel) rfl), rfl, ⟨by decide +kernel, by decide +kernel, by decide +kernel⟩⟩
abbrev mX2_width : MI := (yX2_width, cX2_width, 2, (some .int))
set_option maxRecDepth 20000 in
theorem fX2_width : MFV mX2_width 2 1 := ⟨(tb_in 344 (by decide +kernel) rfl), (tb_in 345 (by decide +kernel) rfl), (tb_in 24 (by decide +kernel) rfl), (tb_in 346 (by decide +kernel) rfl), rfl, ⟨by decide +kernel, by decide +kernel, by decide +kernel⟩⟩
abbrev mX2_changeOf : MI := (yX2_changeOf, cX2_changeOf, 2, (some .int))
set_option maxRecDepth 20000 in
theorem fX2_changeOf : MFV mX2_changeOf 2 1 := ⟨(tb_in 377 (by decide +kernel) rfl), (tb_in 378 (by decide +kernel) rfl), (tb_in 24 (by decide +kernel) rfl), (tb_in 379 (by decide +kernel) rfl), rfl, ⟨by decide +kernel, by decide +kernel, by decide +kernel⟩⟩
abbrev mX2_columnAt : MI := (yX2_columnAt, cX2_columnAt, 3, (some .int))
set_option maxRecDepth 20000 in
theorem fX2_columnAt : MFV mX2_columnAt 2 2 := ⟨(tb_in 406 (by decide +kernel) rfl), (tb_in 407 (by decide +kernel) rfl), (tb_in 24 (by decide +kernel) rfl), (tb_in 408 (by decide +kernel) rfl), rfl, ⟨by decide +kernel, by decide +kernel, by decide +kernel⟩⟩
abbrev mX2_columnOfLetter : MI := (yX2_columnOfLetter, cX2_columnOfLetter, 4, (some .int))
set_option maxRecDepth 20000 in
theorem fX2_columnOfLetter : MFV mX2_columnOfLetter 2 2 := ⟨(tb_in 490 (by decide +kernel) rfl), (tb_in 491 (by decide +kernel) rfl), (tb_in 24 (by decide +kernel) rfl), (tb_in 492 (by decide +kernel) rfl), rfl, ⟨by decide +kernel, by decide +kernel, by decide +kernel⟩⟩
abbrev mX2_hasColumn : MI := (yX2_hasColumn, cX2_hasColumn, 3, (some .boolean))
set_option maxRecDepth 20000 in
theorem fX2_hasColumn : MFV mX2_hasColumn 2 2 := ⟨(tb_in 736 (by decide +kernel) rfl), (tb_in 737 (by decide +kernel) rfl), (tb_in 24 (by decide +kernel) rfl), (tb_in 738 (by decide +kernel) rfl), rfl, ⟨by decide +kernel, by decide +kernel, by decide +kernel⟩⟩
abbrev mX2_letterMask : MI := (yX2_letterMask, cX2_letterMask, 4, (some .int))
set_option maxRecDepth 20000 in
theorem fX2_letterMask : MFV mX2_letterMask 2 1 := ⟨(tb_in 389 (by decide +kernel) rfl), (tb_in 390 (by decide +kernel) rfl), (tb_in 24 (by decide +kernel) rfl), (tb_in 391 (by decide +kernel) rfl), rfl, ⟨by decide +kernel, by decide +kernel, by decide +kernel⟩⟩
abbrev mX2_columnProperty : MI := (yX2_columnProperty, cX2_columnProperty, 4, (some .int))
set_option maxRecDepth 20000 in
theorem fX2_columnProperty : MFV mX2_columnProperty 2 3 := ⟨(tb_in 397 (by decide +kernel) rfl), (tb_in 398 (by decide +kernel) rfl), (tb_in 24 (by decide +kernel) rfl), (tb_in 399 (by decide +kernel) rfl), rfl, ⟨by decide +kernel, by decide +kernel, by decide +kernel⟩⟩
abbrev mX2_canAdd : MI := (yX2_canAdd, cX2_canAdd, 2, (some .boolean))
set_option maxRecDepth 20000 in
theorem fX2_canAdd : MFV mX2_canAdd 2 1 := ⟨(tb_in 562 (by decide +kernel) rfl), (tb_in 563 (by decide +kernel) rfl), (tb_in 24 (by decide +kernel) rfl), (tb_in 564 (by decide +kernel) rfl), rfl, ⟨by decide +kernel, by decide +kernel, by decide +kernel⟩⟩
abbrev mX2_canAddFrom : MI := (yX2_canAddFrom, cX2_canAddFrom, 4, (some .boolean))
set_option maxRecDepth 20000 in
theorem fX2_canAddFrom : MFV mX2_canAddFrom 2 3 := ⟨(tb_in 603 (by decide +kernel) rfl), (tb_in 604 (by decide +kernel) rfl), (tb_in 24 (by decide +kernel) rfl), (tb_in 605 (by decide +kernel) rfl), rfl, ⟨by decide +kernel, by decide +kernel, by decide +kernel⟩⟩
abbrev mX2_canDrop : MI := (yX2_canDrop, cX2_canDrop, 2, (some .boolean))
set_option maxRecDepth 20000 in
theorem fX2_canDrop : MFV mX2_canDrop 2 1 := ⟨(tb_in 617 (by decide +kernel) rfl), (tb_in 618 (by decide +kernel) rfl), (tb_in 24 (by decide +kernel) rfl), (tb_in 619 (by decide +kernel) rfl), rfl, ⟨by decide +kernel, by decide +kernel, by decide +kernel⟩⟩
abbrev mX2_canRename : MI := (yX2_canRename, cX2_canRename, 3, (some .boolean))
set_option maxRecDepth 20000 in
theorem fX2_canRename : MFV mX2_canRename 2 2 := ⟨(tb_in 634 (by decide +kernel) rfl), (tb_in 635 (by decide +kernel) rfl), (tb_in 24 (by decide +kernel) rfl), (tb_in 636 (by decide +kernel) rfl), rfl, ⟨by decide +kernel, by decide +kernel, by decide +kernel⟩⟩
abbrev mX2_extendByNumber : MI := (yX2_extendByNumber, cX2_extendByNumber, 4, (some .int))
set_option maxRecDepth 20000 in
theorem fX2_extendByNumber : MFV mX2_extendByNumber 2 2 := ⟨(tb_in 583 (by decide +kernel) rfl), (tb_in 584 (by decide +kernel) rfl), (tb_in 24 (by decide +kernel) rfl), (tb_in 585 (by decide +kernel) rfl), rfl, ⟨by decide +kernel, by decide +kernel, by decide +kernel⟩⟩
abbrev mX2_extendFrom : MI := (yX2_extendFrom, cX2_extendFrom, 7, (some .int))
set_option maxRecDepth 20000 in
theorem fX2_extendFrom : MFV mX2_extendFrom 2 3 := ⟨(tb_in 608 (by decide +kernel) rfl), (tb_in 609 (by decide +kernel) rfl), (tb_in 24 (by decide +kernel) rfl), (tb_in 610 (by decide +kernel) rfl), rfl, ⟨by decide +kernel, by decide +kernel, by decide +kernel⟩⟩
abbrev mX2_leaveOut : MI := (yX2_leaveOut, cX2_leaveOut, 6, (some .int))
set_option maxRecDepth 20000 in
theorem fX2_leaveOut : MFV mX2_leaveOut 2 2 := ⟨(tb_in 622 (by decide +kernel) rfl), (tb_in 623 (by decide +kernel) rfl), (tb_in 24 (by decide +kernel) rfl), (tb_in 624 (by decide +kernel) rfl), rfl, ⟨by decide +kernel, by decide +kernel, by decide +kernel⟩⟩
abbrev mX2_exchangeLetter : MI := (yX2_exchangeLetter, cX2_exchangeLetter, 5, (some .int))
set_option maxRecDepth 20000 in
theorem fX2_exchangeLetter : MFV mX2_exchangeLetter 2 2 := ⟨(tb_in 638 (by decide +kernel) rfl), (tb_in 639 (by decide +kernel) rfl), (tb_in 24 (by decide +kernel) rfl), (tb_in 640 (by decide +kernel) rfl), rfl, ⟨by decide +kernel, by decide +kernel, by decide +kernel⟩⟩
abbrev mX2_setMark : MI := (yX2_setMark, cX2_setMark, 2, (some .int))
set_option maxRecDepth 20000 in
theorem fX2_setMark : MFV mX2_setMark 2 1 := ⟨(tb_in 719 (by decide +kernel) rfl), (tb_in 720 (by decide +kernel) rfl), (tb_in 24 (by decide +kernel) rfl), (tb_in 721 (by decide +kernel) rfl), rfl, ⟨by decide +kernel, by decide +kernel, by decide +kernel⟩⟩
abbrev mX2_carryForth : MI := (yX2_carryForth, cX2_carryForth, 6, none)
set_option maxRecDepth 20000 in
theorem fX2_carryForth : MFV mX2_carryForth 2 3 := ⟨(tb_in 442 (by decide +kernel) rfl), (tb_in 443 (by decide +kernel) rfl), (tb_in 24 (by decide +kernel) rfl), (tb_in 444 (by decide +kernel) rfl), rfl, ⟨by decide +kernel, by decide +kernel, by decide +kernel⟩⟩
abbrev mX2_carryBack : MI := (yX2_carryBack, cX2_carryBack, 5, none)
set_option maxRecDepth 20000 in
theorem fX2_carryBack : MFV mX2_carryBack 2 3 := ⟨(tb_in 449 (by decide +kernel) rfl), (tb_in 450 (by decide +kernel) rfl), (tb_in 24 (by decide +kernel) rfl), (tb_in 451 (by decide +kernel) rfl), rfl, ⟨by decide +kernel, by decide +kernel, by decide +kernel⟩⟩
abbrev mX2_takeFrom : MI := (yX2_takeFrom, cX2_takeFrom, 2, none)
set_option maxRecDepth 20000 in
theorem fX2_takeFrom : MFV mX2_takeFrom 2 1 := ⟨(tb_in 256 (by decide +kernel) rfl), (tb_in 257 (by decide +kernel) rfl), (tb_in 24 (by decide +kernel) rfl), (tb_in 258 (by decide +kernel) rfl), rfl, ⟨by decide +kernel, by decide +kernel, by decide +kernel⟩⟩
abbrev mX2_isFull : MI := (yX2_isFull, cX2_isFull, 1, (some .boolean))
set_option maxRecDepth 20000 in
theorem fX2_isFull : MFV mX2_isFull 2 0 := ⟨(tb_in 567 (by decide +kernel) rfl), (tb_in 13 (by decide +kernel) rfl), (tb_in 24 (by decide +kernel) rfl), (tb_in 568 (by decide +kernel) rfl), rfl, ⟨by decide +kernel, by decide +kernel, by decide +kernel⟩⟩
abbrev mX2_newestHas : MI := (yX2_newestHas, cX2_newestHas, 2, (some .boolean))
set_option maxRecDepth 20000 in
theorem fX2_newestHas : MFV mX2_newestHas 2 1 := ⟨(tb_in 571 (by decide +kernel) rfl), (tb_in 14 (by decide +kernel) rfl), (tb_in 24 (by decide +kernel) rfl), (tb_in 572 (by decide +kernel) rfl), rfl, ⟨by decide +kernel, by decide +kernel, by decide +kernel⟩⟩
abbrev mX2_placeOfLetter : MI := (yX2_placeOfLetter, cX2_placeOfLetter, 5, (some .int))
set_option maxRecDepth 20000 in
theorem fX2_placeOfLetter : MFV mX2_placeOfLetter 2 2 := ⟨(tb_in 394 (by decide +kernel) rfl), (tb_in 6 (by decide +kernel) rfl), (tb_in 24 (by decide +kernel) rfl), (tb_in 395 (by decide +kernel) rfl), rfl, ⟨by decide +kernel, by decide +kernel, by decide +kernel⟩⟩
abbrev mX2_placeOfColumn : MI := (yX2_placeOfColumn, cX2_placeOfColumn, 5, (some .int))
set_option maxRecDepth 20000 in
theorem fX2_placeOfColumn : MFV mX2_placeOfColumn 2 2 := ⟨(tb_in 412 (by decide +kernel) rfl), (tb_in 8 (by decide +kernel) rfl), (tb_in 24 (by decide +kernel) rfl), (tb_in 413 (by decide +kernel) rfl), rfl, ⟨by decide +kernel, by decide +kernel, by decide +kernel⟩⟩
abbrev mX2_letterAt : MI := (yX2_letterAt, cX2_letterAt, 3, (some .int))
set_option maxRecDepth 20000 in
theorem fX2_letterAt : MFV mX2_letterAt 2 2 := ⟨(tb_in 403 (by decide +kernel) rfl), (tb_in 7 (by decide +kernel) rfl), (tb_in 24 (by decide +kernel) rfl), (tb_in 404 (by decide +kernel) rfl), rfl, ⟨by decide +kernel, by decide +kernel, by decide +kernel⟩⟩
abbrev mX2_comeBy : MI := (yX2_comeBy, cX2_comeBy, 5, (some .int))
set_option maxRecDepth 20000 in
theorem fX2_comeBy : MFV mX2_comeBy 2 1 := ⟨(tb_in 588 (by decide +kernel) rfl), (tb_in 16 (by decide +kernel) rfl), (tb_in 24 (by decide +kernel) rfl), (tb_in 589 (by decide +kernel) rfl), rfl, ⟨by decide +kernel, by decide +kernel, by decide +kernel⟩⟩
abbrev mX2_addLast : MI := (yX2_addLast, cX2_addLast, 4, none)
set_option maxRecDepth 20000 in
theorem fX2_addLast : MFV mX2_addLast 2 2 := ⟨(tb_in 592 (by decide +kernel) rfl), (tb_in 17 (by decide +kernel) rfl), (tb_in 24 (by decide +kernel) rfl), (tb_in 593 (by decide +kernel) rfl), rfl, ⟨by decide +kernel, by decide +kernel, by decide +kernel⟩⟩
abbrev mX2_closeGap : MI := (yX2_closeGap, cX2_closeGap, 5, none)
set_option maxRecDepth 20000 in
theorem fX2_closeGap : MFV mX2_closeGap 2 2 := ⟨(tb_in 627 (by decide +kernel) rfl), (tb_in 18 (by decide +kernel) rfl), (tb_in 24 (by decide +kernel) rfl), (tb_in 628 (by decide +kernel) rfl), rfl, ⟨by decide +kernel, by decide +kernel, by decide +kernel⟩⟩
abbrev mX3_init : MI := (yX3_init, cX3_init, 1, none)
set_option maxRecDepth 20000 in
theorem fX3_init : MFI mX3_init 0 := ⟨rfl, rfl, (tb_in 47 (by decide +kernel) rfl), (tb_in 23 (by decide +kernel) rfl), (tb_in 48 (by decide +kernel) rfl), ⟨by decide +kernel, by decide +kernel, by decide +kernel⟩⟩
abbrev mX3_heldBy : MI := (yX3_heldBy, cX3_heldBy, 2, (some .int))
set_option maxRecDepth 20000 in
theorem fX3_heldBy : MFV mX3_heldBy 3 1 := ⟨(tb_in 354 (by decide +kernel) rfl), (tb_in 355 (by decide +kernel) rfl), (tb_in 23 (by decide +kernel) rfl), (tb_in 356 (by decide +kernel) rfl), rfl, ⟨by decide +kernel, by decide +kernel, by decide +kernel⟩⟩
abbrev mX3_letHold : MI := (yX3_letHold, cX3_letHold, 4, (some .int))
set_option maxRecDepth 20000 in
theorem fX3_letHold : MFV mX3_letHold 3 2 := ⟨(tb_in 709 (by decide +kernel) rfl), (tb_in 710 (by decide +kernel) rfl), (tb_in 23 (by decide +kernel) rfl), (tb_in 711 (by decide +kernel) rfl), rfl, ⟨by decide +kernel, by decide +kernel, by decide +kernel⟩⟩
abbrev mX3_valuesRead : MI := (yX3_valuesRead, cX3_valuesRead, 3, (some (.array .int)))
set_option maxRecDepth 20000 in
theorem fX3_valuesRead : MFV mX3_valuesRead 3 2 := ⟨(tb_in 431 (by decide +kernel) rfl), (tb_in 432 (by decide +kernel) rfl), (tb_in 23 (by decide +kernel) rfl), (tb_in 433 (by decide +kernel) rfl), rfl, ⟨by decide +kernel, by decide +kernel, by decide +kernel⟩⟩
abbrev mX3_valueRead : MI := (yX3_valueRead, cX3_valueRead, 5, (some .int))
set_option maxRecDepth 20000 in
theorem fX3_valueRead : MFV mX3_valueRead 3 3 := ⟨(tb_in 486 (by decide +kernel) rfl), (tb_in 487 (by decide +kernel) rfl), (tb_in 23 (by decide +kernel) rfl), (tb_in 488 (by decide +kernel) rfl), rfl, ⟨by decide +kernel, by decide +kernel, by decide +kernel⟩⟩
abbrev mX3_refusal : MI := (yX3_refusal, cX3_refusal, 6, (some .int))
set_option maxRecDepth 20000 in
theorem fX3_refusal : MFV mX3_refusal 3 3 := ⟨(tb_in 732 (by decide +kernel) rfl), (tb_in 733 (by decide +kernel) rfl), (tb_in 23 (by decide +kernel) rfl), (tb_in 734 (by decide +kernel) rfl), rfl, ⟨by decide +kernel, by decide +kernel, by decide +kernel⟩⟩
abbrev mX3_writeValue : MI := (yX3_writeValue, cX3_writeValue, 6, (some .int))
set_option maxRecDepth 20000 in
theorem fX3_writeValue : MFV mX3_writeValue 3 4 := ⟨(tb_in 754 (by decide +kernel) rfl), (tb_in 755 (by decide +kernel) rfl), (tb_in 23 (by decide +kernel) rfl), (tb_in 756 (by decide +kernel) rfl), rfl, ⟨by decide +kernel, by decide +kernel, by decide +kernel⟩⟩
abbrev mX3_stepOn : MI := (yX3_stepOn, cX3_stepOn, 4, (some .int))
set_option maxRecDepth 20000 in
theorem fX3_stepOn : MFV mX3_stepOn 3 1 := ⟨(tb_in 667 (by decide +kernel) rfl), (tb_in 668 (by decide +kernel) rfl), (tb_in 23 (by decide +kernel) rfl), (tb_in 669 (by decide +kernel) rfl), rfl, ⟨by decide +kernel, by decide +kernel, by decide +kernel⟩⟩
abbrev mX3_stepsLeft : MI := (yX3_stepsLeft, cX3_stepsLeft, 4, (some .int))
set_option maxRecDepth 20000 in
theorem fX3_stepsLeft : MFV mX3_stepsLeft 3 0 := ⟨(tb_in 466 (by decide +kernel) rfl), (tb_in 467 (by decide +kernel) rfl), (tb_in 23 (by decide +kernel) rfl), (tb_in 468 (by decide +kernel) rfl), rfl, ⟨by decide +kernel, by decide +kernel, by decide +kernel⟩⟩
abbrev mX3_rowsBehind : MI := (yX3_rowsBehind, cX3_rowsBehind, 1, (some .int))
set_option maxRecDepth 20000 in
theorem fX3_rowsBehind : MFV mX3_rowsBehind 3 0 := ⟨(tb_in 311 (by decide +kernel) rfl), (tb_in 312 (by decide +kernel) rfl), (tb_in 23 (by decide +kernel) rfl), (tb_in 313 (by decide +kernel) rfl), rfl, ⟨by decide +kernel, by decide +kernel, by decide +kernel⟩⟩
abbrev mX3_oldestNeeded : MI := (yX3_oldestNeeded, cX3_oldestNeeded, 3, (some .int))
set_option maxRecDepth 20000 in
theorem fX3_oldestNeeded : MFV mX3_oldestNeeded 3 0 := ⟨(tb_in 349 (by decide +kernel) rfl), (tb_in 350 (by decide +kernel) rfl), (tb_in 23 (by decide +kernel) rfl), (tb_in 351 (by decide +kernel) rfl), rfl, ⟨by decide +kernel, by decide +kernel, by decide +kernel⟩⟩
abbrev mX3_valuesLost : MI := (yX3_valuesLost, cX3_valuesLost, 8, (some .int))
set_option maxRecDepth 20000 in
theorem fX3_valuesLost : MFV mX3_valuesLost 3 2 := ⟨(tb_in 457 (by decide +kernel) rfl), (tb_in 458 (by decide +kernel) rfl), (tb_in 23 (by decide +kernel) rfl), (tb_in 459 (by decide +kernel) rfl), rfl, ⟨by decide +kernel, by decide +kernel, by decide +kernel⟩⟩
abbrev mX3_rowsWith : MI := (yX3_rowsWith, cX3_rowsWith, 6, (some .int))
set_option maxRecDepth 20000 in
theorem fX3_rowsWith : MFV mX3_rowsWith 3 3 := ⟨(tb_in 482 (by decide +kernel) rfl), (tb_in 483 (by decide +kernel) rfl), (tb_in 23 (by decide +kernel) rfl), (tb_in 484 (by decide +kernel) rfl), rfl, ⟨by decide +kernel, by decide +kernel, by decide +kernel⟩⟩
abbrev mX3_shapeProperty : MI := (yX3_shapeProperty, cX3_shapeProperty, 3, (some .int))
set_option maxRecDepth 20000 in
theorem fX3_shapeProperty : MFV mX3_shapeProperty 3 2 := ⟨(tb_in 372 (by decide +kernel) rfl), (tb_in 373 (by decide +kernel) rfl), (tb_in 23 (by decide +kernel) rfl), (tb_in 374 (by decide +kernel) rfl), rfl, ⟨by decide +kernel, by decide +kernel, by decide +kernel⟩⟩
abbrev mX3_rowProperty : MI := (yX3_rowProperty, cX3_rowProperty, 4, (some .int))
set_option maxRecDepth 20000 in
theorem fX3_rowProperty : MFV mX3_rowProperty 3 2 := ⟨(tb_in 419 (by decide +kernel) rfl), (tb_in 420 (by decide +kernel) rfl), (tb_in 23 (by decide +kernel) rfl), (tb_in 421 (by decide +kernel) rfl), rfl, ⟨by decide +kernel, by decide +kernel, by decide +kernel⟩⟩
abbrev mX3_takeFrom : MI := (yX3_takeFrom, cX3_takeFrom, 2, none)
set_option maxRecDepth 20000 in
theorem fX3_takeFrom : MFV mX3_takeFrom 3 1 := ⟨(tb_in 252 (by decide +kernel) rfl), (tb_in 253 (by decide +kernel) rfl), (tb_in 23 (by decide +kernel) rfl), (tb_in 254 (by decide +kernel) rfl), rfl, ⟨by decide +kernel, by decide +kernel, by decide +kernel⟩⟩
abbrev mX3_stepOnce : MI := (yX3_stepOnce, cX3_stepOnce, 2, none)
set_option maxRecDepth 20000 in
theorem fX3_stepOnce : MFV mX3_stepOnce 3 0 := ⟨(tb_in 673 (by decide +kernel) rfl), (tb_in 19 (by decide +kernel) rfl), (tb_in 23 (by decide +kernel) rfl), (tb_in 674 (by decide +kernel) rfl), rfl, ⟨by decide +kernel, by decide +kernel, by decide +kernel⟩⟩
abbrev mX3_isBehind : MI := (yX3_isBehind, cX3_isBehind, 2, (some .boolean))
set_option maxRecDepth 20000 in
theorem fX3_isBehind : MFV mX3_isBehind 3 1 := ⟨(tb_in 479 (by decide +kernel) rfl), (tb_in 11 (by decide +kernel) rfl), (tb_in 23 (by decide +kernel) rfl), (tb_in 480 (by decide +kernel) rfl), rfl, ⟨by decide +kernel, by decide +kernel, by decide +kernel⟩⟩
abbrev mX3_sumRead : MI := (yX3_sumRead, cX3_sumRead, 6, (some .int))
set_option maxRecDepth 20000 in
theorem fX3_sumRead : MFV mX3_sumRead 3 2 := ⟨(tb_in 428 (by decide +kernel) rfl), (tb_in 10 (by decide +kernel) rfl), (tb_in 23 (by decide +kernel) rfl), (tb_in 429 (by decide +kernel) rfl), rfl, ⟨by decide +kernel, by decide +kernel, by decide +kernel⟩⟩
abbrev mX3_rowsOfShape : MI := (yX3_rowsOfShape, cX3_rowsOfShape, 4, (some .int))
set_option maxRecDepth 20000 in
theorem fX3_rowsOfShape : MFV mX3_rowsOfShape 3 1 := ⟨(tb_in 321 (by decide +kernel) rfl), (tb_in 3 (by decide +kernel) rfl), (tb_in 23 (by decide +kernel) rfl), (tb_in 322 (by decide +kernel) rfl), rfl, ⟨by decide +kernel, by decide +kernel, by decide +kernel⟩⟩
abbrev mX3_readersOfShape : MI := (yX3_readersOfShape, cX3_readersOfShape, 4, (some .int))
set_option maxRecDepth 20000 in
theorem fX3_readersOfShape : MFV mX3_readersOfShape 3 1 := ⟨(tb_in 382 (by decide +kernel) rfl), (tb_in 5 (by decide +kernel) rfl), (tb_in 23 (by decide +kernel) rfl), (tb_in 383 (by decide +kernel) rfl), rfl, ⟨by decide +kernel, by decide +kernel, by decide +kernel⟩⟩
abbrev mX4_init : MI := (yX4_init, cX4_init, 1, none)
set_option maxRecDepth 20000 in
theorem fX4_init : MFI mX4_init 0 := ⟨rfl, rfl, (tb_in 147 (by decide +kernel) rfl), (tb_in 27 (by decide +kernel) rfl), (tb_in 148 (by decide +kernel) rfl), ⟨by decide +kernel, by decide +kernel, by decide +kernel⟩⟩
abbrev mX4_length : MI := (yX4_length, cX4_length, 1, (some .int))
set_option maxRecDepth 20000 in
theorem fX4_length : MFV mX4_length 4 0 := ⟨(tb_in 508 (by decide +kernel) rfl), (tb_in 509 (by decide +kernel) rfl), (tb_in 27 (by decide +kernel) rfl), (tb_in 510 (by decide +kernel) rfl), rfl, ⟨by decide +kernel, by decide +kernel, by decide +kernel⟩⟩
abbrev mX4_code : MI := (yX4_code, cX4_code, 2, (some .int))
set_option maxRecDepth 20000 in
theorem fX4_code : MFV mX4_code 4 1 := ⟨(tb_in 512 (by decide +kernel) rfl), (tb_in 513 (by decide +kernel) rfl), (tb_in 27 (by decide +kernel) rfl), (tb_in 514 (by decide +kernel) rfl), rfl, ⟨by decide +kernel, by decide +kernel, by decide +kernel⟩⟩
abbrev mX5_init : MI := (yX5_init, cX5_init, 1, none)
set_option maxRecDepth 20000 in
theorem fX5_init : MFI mX5_init 0 := ⟨rfl, rfl, (tb_in 39 (by decide +kernel) rfl), (tb_in 22 (by decide +kernel) rfl), (tb_in 40 (by decide +kernel) rfl), ⟨by decide +kernel, by decide +kernel, by decide +kernel⟩⟩
abbrev mX5_addNumber : MI := (yX5_addNumber, cX5_addNumber, 3, (some .int))
set_option maxRecDepth 20000 in
theorem fX5_addNumber : MFV mX5_addNumber 5 2 := ⟨(tb_in 551 (by decide +kernel) rfl), (tb_in 552 (by decide +kernel) rfl), (tb_in 22 (by decide +kernel) rfl), (tb_in 553 (by decide +kernel) rfl), rfl, ⟨by decide +kernel, by decide +kernel, by decide +kernel⟩⟩
abbrev mX5_addCopy : MI := (yX5_addCopy, cX5_addCopy, 4, (some .int))
set_option maxRecDepth 20000 in
theorem fX5_addCopy : MFV mX5_addCopy 5 3 := ⟨(tb_in 595 (by decide +kernel) rfl), (tb_in 596 (by decide +kernel) rfl), (tb_in 22 (by decide +kernel) rfl), (tb_in 597 (by decide +kernel) rfl), rfl, ⟨by decide +kernel, by decide +kernel, by decide +kernel⟩⟩
abbrev mX5_drop : MI := (yX5_drop, cX5_drop, 3, (some .int))
set_option maxRecDepth 20000 in
theorem fX5_drop : MFV mX5_drop 5 2 := ⟨(tb_in 613 (by decide +kernel) rfl), (tb_in 614 (by decide +kernel) rfl), (tb_in 22 (by decide +kernel) rfl), (tb_in 615 (by decide +kernel) rfl), rfl, ⟨by decide +kernel, by decide +kernel, by decide +kernel⟩⟩
abbrev mX5_rename : MI := (yX5_rename, cX5_rename, 3, (some .int))
set_option maxRecDepth 20000 in
theorem fX5_rename : MFV mX5_rename 5 2 := ⟨(tb_in 630 (by decide +kernel) rfl), (tb_in 631 (by decide +kernel) rfl), (tb_in 22 (by decide +kernel) rfl), (tb_in 632 (by decide +kernel) rfl), rfl, ⟨by decide +kernel, by decide +kernel, by decide +kernel⟩⟩
abbrev mX5_insertBy : MI := (yX5_insertBy, cX5_insertBy, 2, (some .int))
set_option maxRecDepth 20000 in
theorem fX5_insertBy : MFV mX5_insertBy 5 1 := ⟨(tb_in 642 (by decide +kernel) rfl), (tb_in 643 (by decide +kernel) rfl), (tb_in 22 (by decide +kernel) rfl), (tb_in 644 (by decide +kernel) rfl), rfl, ⟨by decide +kernel, by decide +kernel, by decide +kernel⟩⟩
abbrev mX5_write : MI := (yX5_write, cX5_write, 5, (some .int))
set_option maxRecDepth 20000 in
theorem fX5_write : MFV mX5_write 5 4 := ⟨(tb_in 744 (by decide +kernel) rfl), (tb_in 745 (by decide +kernel) rfl), (tb_in 22 (by decide +kernel) rfl), (tb_in 746 (by decide +kernel) rfl), rfl, ⟨by decide +kernel, by decide +kernel, by decide +kernel⟩⟩
abbrev mX5_remove : MI := (yX5_remove, cX5_remove, 2, (some .int))
set_option maxRecDepth 20000 in
theorem fX5_remove : MFV mX5_remove 5 1 := ⟨(tb_in 685 (by decide +kernel) rfl), (tb_in 686 (by decide +kernel) rfl), (tb_in 22 (by decide +kernel) rfl), (tb_in 687 (by decide +kernel) rfl), rfl, ⟨by decide +kernel, by decide +kernel, by decide +kernel⟩⟩
abbrev mX5_goOn : MI := (yX5_goOn, cX5_goOn, 2, (some .int))
set_option maxRecDepth 20000 in
theorem fX5_goOn : MFV mX5_goOn 5 1 := ⟨(tb_in 662 (by decide +kernel) rfl), (tb_in 663 (by decide +kernel) rfl), (tb_in 22 (by decide +kernel) rfl), (tb_in 664 (by decide +kernel) rfl), rfl, ⟨by decide +kernel, by decide +kernel, by decide +kernel⟩⟩
abbrev mX5_hold : MI := (yX5_hold, cX5_hold, 3, (some .int))
set_option maxRecDepth 20000 in
theorem fX5_hold : MFV mX5_hold 5 2 := ⟨(tb_in 701 (by decide +kernel) rfl), (tb_in 702 (by decide +kernel) rfl), (tb_in 22 (by decide +kernel) rfl), (tb_in 703 (by decide +kernel) rfl), rfl, ⟨by decide +kernel, by decide +kernel, by decide +kernel⟩⟩
abbrev mX5_retire : MI := (yX5_retire, cX5_retire, 2, (some .int))
set_option maxRecDepth 20000 in
theorem fX5_retire : MFV mX5_retire 5 1 := ⟨(tb_in 714 (by decide +kernel) rfl), (tb_in 715 (by decide +kernel) rfl), (tb_in 22 (by decide +kernel) rfl), (tb_in 716 (by decide +kernel) rfl), rfl, ⟨by decide +kernel, by decide +kernel, by decide +kernel⟩⟩
abbrev mX5_undo : MI := (yX5_undo, cX5_undo, 1, (some .int))
set_option maxRecDepth 20000 in
theorem fX5_undo : MFV mX5_undo 5 0 := ⟨(tb_in 168 (by decide +kernel) rfl), (tb_in 169 (by decide +kernel) rfl), (tb_in 22 (by decide +kernel) rfl), (tb_in 170 (by decide +kernel) rfl), rfl, ⟨by decide +kernel, by decide +kernel, by decide +kernel⟩⟩
abbrev mX5_read : MI := (yX5_read, cX5_read, 4, (some .int))
set_option maxRecDepth 20000 in
theorem fX5_read : MFV mX5_read 5 3 := ⟨(tb_in 762 (by decide +kernel) rfl), (tb_in 763 (by decide +kernel) rfl), (tb_in 22 (by decide +kernel) rfl), (tb_in 764 (by decide +kernel) rfl), rfl, ⟨by decide +kernel, by decide +kernel, by decide +kernel⟩⟩
abbrev mX5_shape : MI := (yX5_shape, cX5_shape, 3, (some .int))
set_option maxRecDepth 20000 in
theorem fX5_shape : MFV mX5_shape 5 2 := ⟨(tb_in 523 (by decide +kernel) rfl), (tb_in 524 (by decide +kernel) rfl), (tb_in 22 (by decide +kernel) rfl), (tb_in 525 (by decide +kernel) rfl), rfl, ⟨by decide +kernel, by decide +kernel, by decide +kernel⟩⟩
abbrev mX5_row : MI := (yX5_row, cX5_row, 3, (some .int))
set_option maxRecDepth 20000 in
theorem fX5_row : MFV mX5_row 5 2 := ⟨(tb_in 740 (by decide +kernel) rfl), (tb_in 741 (by decide +kernel) rfl), (tb_in 22 (by decide +kernel) rfl), (tb_in 742 (by decide +kernel) rfl), rfl, ⟨by decide +kernel, by decide +kernel, by decide +kernel⟩⟩
abbrev mX5_count : MI := (yX5_count, cX5_count, 2, (some .int))
set_option maxRecDepth 20000 in
theorem fX5_count : MFV mX5_count 5 1 := ⟨(tb_in 275 (by decide +kernel) rfl), (tb_in 276 (by decide +kernel) rfl), (tb_in 22 (by decide +kernel) rfl), (tb_in 277 (by decide +kernel) rfl), rfl, ⟨by decide +kernel, by decide +kernel, by decide +kernel⟩⟩
abbrev mX5_lost : MI := (yX5_lost, cX5_lost, 3, (some .int))
set_option maxRecDepth 20000 in
theorem fX5_lost : MFV mX5_lost 5 2 := ⟨(tb_in 774 (by decide +kernel) rfl), (tb_in 775 (by decide +kernel) rfl), (tb_in 22 (by decide +kernel) rfl), (tb_in 776 (by decide +kernel) rfl), rfl, ⟨by decide +kernel, by decide +kernel, by decide +kernel⟩⟩
abbrev mX5_against : MI := (yX5_against, cX5_against, 4, (some .int))
set_option maxRecDepth 20000 in
theorem fX5_against : MFV mX5_against 5 3 := ⟨(tb_in 726 (by decide +kernel) rfl), (tb_in 727 (by decide +kernel) rfl), (tb_in 22 (by decide +kernel) rfl), (tb_in 728 (by decide +kernel) rfl), rfl, ⟨by decide +kernel, by decide +kernel, by decide +kernel⟩⟩
abbrev mX5_find : MI := (yX5_find, cX5_find, 4, (some .int))
set_option maxRecDepth 20000 in
theorem fX5_find : MFV mX5_find 5 3 := ⟨(tb_in 767 (by decide +kernel) rfl), (tb_in 768 (by decide +kernel) rfl), (tb_in 22 (by decide +kernel) rfl), (tb_in 769 (by decide +kernel) rfl), rfl, ⟨by decide +kernel, by decide +kernel, by decide +kernel⟩⟩
abbrev mX5_freshShare : MI := (yX5_freshShare, cX5_freshShare, 2, (some .double))
set_option maxRecDepth 20000 in
theorem fX5_freshShare : MFV mX5_freshShare 5 0 := ⟨(tb_in 494 (by decide +kernel) rfl), (tb_in 495 (by decide +kernel) rfl), (tb_in 22 (by decide +kernel) rfl), (tb_in 496 (by decide +kernel) rfl), rfl, ⟨by decide +kernel, by decide +kernel, by decide +kernel⟩⟩
abbrev mX5_digest : MI := (yX5_digest, cX5_digest, 4, (some .long))
set_option maxRecDepth 20000 in
theorem fX5_digest : MFV mX5_digest 5 0 := ⟨(tb_in 359 (by decide +kernel) rfl), (tb_in 360 (by decide +kernel) rfl), (tb_in 22 (by decide +kernel) rfl), (tb_in 361 (by decide +kernel) rfl), rfl, ⟨by decide +kernel, by decide +kernel, by decide +kernel⟩⟩
abbrev mX5_counted : MI := (yX5_counted, cX5_counted, 2, (some .int))
set_option maxRecDepth 20000 in
theorem fX5_counted : MFV mX5_counted 5 1 := ⟨(tb_in 296 (by decide +kernel) rfl), (tb_in 2 (by decide +kernel) rfl), (tb_in 22 (by decide +kernel) rfl), (tb_in 297 (by decide +kernel) rfl), rfl, ⟨by decide +kernel, by decide +kernel, by decide +kernel⟩⟩
abbrev mX5_mixedShapes : MI := (yX5_mixedShapes, cX5_mixedShapes, 8, (some .long))
set_option maxRecDepth 20000 in
theorem fX5_mixedShapes : MFV mX5_mixedShapes 5 1 := ⟨(tb_in 369 (by decide +kernel) rfl), (tb_in 4 (by decide +kernel) rfl), (tb_in 22 (by decide +kernel) rfl), (tb_in 370 (by decide +kernel) rfl), rfl, ⟨by decide +kernel, by decide +kernel, by decide +kernel⟩⟩
abbrev mX5_mixedRow : MI := (yX5_mixedRow, cX5_mixedRow, 9, (some .long))
set_option maxRecDepth 20000 in
theorem fX5_mixedRow : MFV mX5_mixedRow 5 2 := ⟨(tb_in 416 (by decide +kernel) rfl), (tb_in 9 (by decide +kernel) rfl), (tb_in 22 (by decide +kernel) rfl), (tb_in 417 (by decide +kernel) rfl), rfl, ⟨by decide +kernel, by decide +kernel, by decide +kernel⟩⟩
abbrev mX5_mixedText : MI := (yX5_mixedText, cX5_mixedText, 6, (some .long))
set_option maxRecDepth 20000 in
theorem fX5_mixedText : MFV mX5_mixedText 5 1 := ⟨(tb_in 505 (by decide +kernel) rfl), (tb_in 12 (by decide +kernel) rfl), (tb_in 22 (by decide +kernel) rfl), (tb_in 506 (by decide +kernel) rfl), rfl, ⟨by decide +kernel, by decide +kernel, by decide +kernel⟩⟩
abbrev mX5_mixed : MI := (yX5_mixed, cX5_mixed, 4, (some .long))
set_option maxRecDepth 20000 in
theorem fX5_mixed : MFS mX5_mixed 2 := ⟨(tb_in 364 (by decide +kernel) rfl), (tb_in 22 (by decide +kernel) rfl), (tb_in 365 (by decide +kernel) rfl), ⟨by decide +kernel, by decide +kernel, by decide +kernel⟩⟩
abbrev mX5_bitsOfShare : MI := (yX5_bitsOfShare, cX5_bitsOfShare, 7, (some .long))
set_option maxRecDepth 20000 in
theorem fX5_bitsOfShare : MFS mX5_bitsOfShare 1 := ⟨(tb_in 498 (by decide +kernel) rfl), (tb_in 22 (by decide +kernel) rfl), (tb_in 499 (by decide +kernel) rfl), ⟨by decide +kernel, by decide +kernel, by decide +kernel⟩⟩
abbrev mX5_isLetter : MI := (yX5_isLetter, cX5_isLetter, 1, (some .boolean))
set_option maxRecDepth 20000 in
theorem fX5_isLetter : MFS mX5_isLetter 1 := ⟨(tb_in 555 (by decide +kernel) rfl), (tb_in 22 (by decide +kernel) rfl), (tb_in 556 (by decide +kernel) rfl), ⟨by decide +kernel, by decide +kernel, by decide +kernel⟩⟩
abbrev mX5_isLetterOrNone : MI := (yX5_isLetterOrNone, cX5_isLetterOrNone, 1, (some .boolean))
set_option maxRecDepth 20000 in
theorem fX5_isLetterOrNone : MFS mX5_isLetterOrNone 1 := ⟨(tb_in 599 (by decide +kernel) rfl), (tb_in 22 (by decide +kernel) rfl), (tb_in 600 (by decide +kernel) rfl), ⟨by decide +kernel, by decide +kernel, by decide +kernel⟩⟩
abbrev mX5_isNumber : MI := (yX5_isNumber, cX5_isNumber, 1, (some .boolean))
set_option maxRecDepth 20000 in
theorem fX5_isNumber : MFS mX5_isNumber 1 := ⟨(tb_in 558 (by decide +kernel) rfl), (tb_in 22 (by decide +kernel) rfl), (tb_in 559 (by decide +kernel) rfl), ⟨by decide +kernel, by decide +kernel, by decide +kernel⟩⟩
abbrev mX5_isValue : MI := (yX5_isValue, cX5_isValue, 1, (some .boolean))
set_option maxRecDepth 20000 in
theorem fX5_isValue : MFS mX5_isValue 1 := ⟨(tb_in 748 (by decide +kernel) rfl), (tb_in 22 (by decide +kernel) rfl), (tb_in 749 (by decide +kernel) rfl), ⟨by decide +kernel, by decide +kernel, by decide +kernel⟩⟩
abbrev mX5_isReader : MI := (yX5_isReader, cX5_isReader, 1, (some .boolean))
set_option maxRecDepth 20000 in
theorem fX5_isReader : MFS mX5_isReader 1 := ⟨(tb_in 705 (by decide +kernel) rfl), (tb_in 22 (by decide +kernel) rfl), (tb_in 706 (by decide +kernel) rfl), ⟨by decide +kernel, by decide +kernel, by decide +kernel⟩⟩
abbrev mX5_at : MI := (yX5_at, cX5_at, 2, (some .int))
set_option maxRecDepth 20000 in
theorem fX5_at : MFS mX5_at 2 := ⟨(tb_in 328 (by decide +kernel) rfl), (tb_in 22 (by decide +kernel) rfl), (tb_in 329 (by decide +kernel) rfl), ⟨by decide +kernel, by decide +kernel, by decide +kernel⟩⟩
abbrev mX5_put : MI := (yX5_put, cX5_put, 3, none)
set_option maxRecDepth 20000 in
theorem fX5_put : MFS mX5_put 3 := ⟨(tb_in 439 (by decide +kernel) rfl), (tb_in 22 (by decide +kernel) rfl), (tb_in 440 (by decide +kernel) rfl), ⟨by decide +kernel, by decide +kernel, by decide +kernel⟩⟩
abbrev mX5_copyAll : MI := (yX5_copyAll, cX5_copyAll, 2, none)
set_option maxRecDepth 20000 in
theorem fX5_copyAll : MFS mX5_copyAll 2 := ⟨(tb_in 260 (by decide +kernel) rfl), (tb_in 22 (by decide +kernel) rfl), (tb_in 261 (by decide +kernel) rfl), ⟨by decide +kernel, by decide +kernel, by decide +kernel⟩⟩
abbrev mJ9_min_7cf53 : MI := (yJ9_min_7cf53, cJ9_min_7cf53, 2, (some .int))
set_option maxRecDepth 20000 in
theorem fJ9_min_7cf53 : MFS mJ9_min_7cf53 2 := ⟨(tb_in 263 (by decide +kernel) rfl), (tb_in 32 (by decide +kernel) rfl), (tb_in 264 (by decide +kernel) rfl), ⟨by decide +kernel, by decide +kernel, by decide +kernel⟩⟩
abbrev mL_cell : MI := (yL_cell, cL_cell, 2, (some .int))
set_option maxRecDepth 20000 in
theorem fL_cell : MFS mL_cell 2 := ⟨(tb_in 517 (by decide +kernel) rfl), (tb_in 21 (by decide +kernel) rfl), (tb_in 518 (by decide +kernel) rfl), ⟨by decide +kernel, by decide +kernel, by decide +kernel⟩⟩
abbrev mL_low : MI := (yL_low, cL_low, 2, (some .int))
set_option maxRecDepth 20000 in
theorem fL_low : MFS mL_low 2 := ⟨(tb_in 547 (by decide +kernel) rfl), (tb_in 21 (by decide +kernel) rfl), (tb_in 548 (by decide +kernel) rfl), ⟨by decide +kernel, by decide +kernel, by decide +kernel⟩⟩
abbrev mL_acts : MI := (yL_acts, cL_acts, 13, (some .boolean))
set_option maxRecDepth 20000 in
theorem fL_acts : MFS mL_acts 3 := ⟨(tb_in 520 (by decide +kernel) rfl), (tb_in 21 (by decide +kernel) rfl), (tb_in 521 (by decide +kernel) rfl), ⟨by decide +kernel, by decide +kernel, by decide +kernel⟩⟩
abbrev mL_writes : MI := (yL_writes, cL_writes, 8, (some .boolean))
set_option maxRecDepth 20000 in
theorem fL_writes : MFS mL_writes 5 := ⟨(tb_in 723 (by decide +kernel) rfl), (tb_in 21 (by decide +kernel) rfl), (tb_in 724 (by decide +kernel) rfl), ⟨by decide +kernel, by decide +kernel, by decide +kernel⟩⟩
abbrev mL_holds : MI := (yL_holds, cL_holds, 10, (some .boolean))
set_option maxRecDepth 20000 in
theorem fL_holds : MFS mL_holds 1 := ⟨(tb_in 771 (by decide +kernel) rfl), (tb_in 21 (by decide +kernel) rfl), (tb_in 772 (by decide +kernel) rfl), ⟨by decide +kernel, by decide +kernel, by decide +kernel⟩⟩
set_option maxRecDepth 20000 in
theorem qL_78 : Cond.methodLink "ShapedRowsLaw" 78 yX5_init ∈ TBg := (tb_in 38 (by decide +kernel) rfl)
set_option maxRecDepth 20000 in
theorem qX5_18 : Cond.methodLink "ShapedRows" 18 yX0_init ∈ TBg := (tb_in 130 (by decide +kernel) rfl)
set_option maxRecDepth 20000 in
theorem qL_91 : Cond.methodLink "ShapedRowsLaw" 91 yX5_undo ∈ TBg := (tb_in 167 (by decide +kernel) rfl)
set_option maxRecDepth 20000 in
theorem qX5_197 : Cond.methodLink "ShapedRows" 197 yX0_size ∈ TBg := (tb_in 171 (by decide +kernel) rfl)
set_option maxRecDepth 20000 in
theorem qX5_202 : Cond.methodLink "ShapedRows" 202 yX0_restore ∈ TBg := (tb_in 243 (by decide +kernel) rfl)
set_option maxRecDepth 20000 in
theorem qX0_25 : Cond.methodLink "ShapedRows$History" 25 yX0_slotAt ∈ TBg := (tb_in 247 (by decide +kernel) rfl)
set_option maxRecDepth 20000 in
theorem qX0_29 : Cond.methodLink "ShapedRows$History" 29 yX3_takeFrom ∈ TBg := (tb_in 251 (by decide +kernel) rfl)
set_option maxRecDepth 20000 in
theorem qX3_136 : Cond.methodLink "ShapedRows$State" 136 yX2_takeFrom ∈ TBg := (tb_in 255 (by decide +kernel) rfl)
set_option maxRecDepth 20000 in
theorem qX5_333 : Cond.methodLink "ShapedRows" 333 yJ9_min_7cf53 ∈ TBg := (tb_in 262 (by decide +kernel) rfl)
set_option maxRecDepth 20000 in
theorem qX3_140 : Cond.methodLink "ShapedRows$State" 140 yX1_takeFrom ∈ TBg := (tb_in 268 (by decide +kernel) rfl)
set_option maxRecDepth 20000 in
theorem qL_8 : Cond.methodLink "ShapedRowsLaw" 8 yX5_count ∈ TBg := (tb_in 274 (by decide +kernel) rfl)
set_option maxRecDepth 20000 in
theorem qX5_232 : Cond.methodLink "ShapedRows" 232 yX5_counted ∈ TBg := (tb_in 294 (by decide +kernel) rfl)
set_option maxRecDepth 20000 in
theorem qX5_273 : Cond.methodLink "ShapedRows" 273 yX2_size ∈ TBg := (tb_in 298 (by decide +kernel) rfl)
set_option maxRecDepth 20000 in
theorem qX5_274 : Cond.methodLink "ShapedRows" 274 yX2_mark ∈ TBg := (tb_in 302 (by decide +kernel) rfl)
set_option maxRecDepth 20000 in
theorem qX5_244 : Cond.methodLink "ShapedRows" 244 yX1_size ∈ TBg := (tb_in 306 (by decide +kernel) rfl)
set_option maxRecDepth 20000 in
theorem qX5_245 : Cond.methodLink "ShapedRows" 245 yX3_rowsBehind ∈ TBg := (tb_in 310 (by decide +kernel) rfl)
set_option maxRecDepth 20000 in
theorem qX3_84 : Cond.methodLink "ShapedRows$State" 84 yX1_size ∈ TBg := (tb_in 314 (by decide +kernel) rfl)
set_option maxRecDepth 20000 in
theorem qX3_94 : Cond.methodLink "ShapedRows$State" 94 yX2_newest ∈ TBg := (tb_in 315 (by decide +kernel) rfl)
set_option maxRecDepth 20000 in
theorem qX3_97 : Cond.methodLink "ShapedRows$State" 97 yX3_rowsOfShape ∈ TBg := (tb_in 319 (by decide +kernel) rfl)
set_option maxRecDepth 20000 in
theorem qX3_48 : Cond.methodLink "ShapedRows$State" 48 yX1_shapeOf ∈ TBg := (tb_in 323 (by decide +kernel) rfl)
set_option maxRecDepth 20000 in
theorem qX5_277 : Cond.methodLink "ShapedRows" 277 yX1_cursor ∈ TBg := (tb_in 330 (by decide +kernel) rfl)
set_option maxRecDepth 20000 in
theorem qX5_280 : Cond.methodLink "ShapedRows" 280 yX1_rewritten ∈ TBg := (tb_in 334 (by decide +kernel) rfl)
set_option maxRecDepth 20000 in
theorem qX5_283 : Cond.methodLink "ShapedRows" 283 yX1_writes ∈ TBg := (tb_in 338 (by decide +kernel) rfl)
set_option maxRecDepth 20000 in
theorem qX5_108 : Cond.methodLink "ShapedRows" 108 yX2_newest ∈ TBg := (tb_in 342 (by decide +kernel) rfl)
set_option maxRecDepth 20000 in
theorem qX5_286 : Cond.methodLink "ShapedRows" 286 yX2_width ∈ TBg := (tb_in 343 (by decide +kernel) rfl)
set_option maxRecDepth 20000 in
theorem qX5_161 : Cond.methodLink "ShapedRows" 161 yX3_oldestNeeded ∈ TBg := (tb_in 348 (by decide +kernel) rfl)
set_option maxRecDepth 20000 in
theorem qX3_100 : Cond.methodLink "ShapedRows$State" 100 yJ9_min_7cf53 ∈ TBg := (tb_in 352 (by decide +kernel) rfl)
set_option maxRecDepth 20000 in
theorem qX3_36 : Cond.methodLink "ShapedRows$State" 36 yX3_heldBy ∈ TBg := (tb_in 353 (by decide +kernel) rfl)
set_option maxRecDepth 20000 in
theorem qL_83 : Cond.methodLink "ShapedRowsLaw" 83 yX5_digest ∈ TBg := (tb_in 358 (by decide +kernel) rfl)
set_option maxRecDepth 20000 in
theorem qX5_250 : Cond.methodLink "ShapedRows" 250 yX5_mixed ∈ TBg := (tb_in 363 (by decide +kernel) rfl)
set_option maxRecDepth 20000 in
theorem qX5_254 : Cond.methodLink "ShapedRows" 254 yX5_mixedShapes ∈ TBg := (tb_in 367 (by decide +kernel) rfl)
set_option maxRecDepth 20000 in
theorem qX5_226 : Cond.methodLink "ShapedRows" 226 yX3_shapeProperty ∈ TBg := (tb_in 371 (by decide +kernel) rfl)
set_option maxRecDepth 20000 in
theorem qX3_105 : Cond.methodLink "ShapedRows$State" 105 yX2_width ∈ TBg := (tb_in 375 (by decide +kernel) rfl)
set_option maxRecDepth 20000 in
theorem qX3_118 : Cond.methodLink "ShapedRows$State" 118 yX2_changeOf ∈ TBg := (tb_in 376 (by decide +kernel) rfl)
set_option maxRecDepth 20000 in
theorem qX3_121 : Cond.methodLink "ShapedRows$State" 121 yX3_readersOfShape ∈ TBg := (tb_in 380 (by decide +kernel) rfl)
set_option maxRecDepth 20000 in
theorem qX3_124 : Cond.methodLink "ShapedRows$State" 124 yX2_isRetired ∈ TBg := (tb_in 384 (by decide +kernel) rfl)
set_option maxRecDepth 20000 in
theorem qX3_127 : Cond.methodLink "ShapedRows$State" 127 yX2_letterMask ∈ TBg := (tb_in 388 (by decide +kernel) rfl)
set_option maxRecDepth 20000 in
theorem qX2_51 : Cond.methodLink "ShapedRows$Shapes" 51 yX2_placeOfLetter ∈ TBg := (tb_in 392 (by decide +kernel) rfl)
set_option maxRecDepth 20000 in
theorem qX5_221 : Cond.methodLink "ShapedRows" 221 yX2_columnProperty ∈ TBg := (tb_in 396 (by decide +kernel) rfl)
set_option maxRecDepth 20000 in
theorem qX2_61 : Cond.methodLink "ShapedRows$Shapes" 61 yX2_width ∈ TBg := (tb_in 400 (by decide +kernel) rfl)
set_option maxRecDepth 20000 in
theorem qX2_65 : Cond.methodLink "ShapedRows$Shapes" 65 yX2_letterAt ∈ TBg := (tb_in 401 (by decide +kernel) rfl)
set_option maxRecDepth 20000 in
theorem qX2_55 : Cond.methodLink "ShapedRows$Shapes" 55 yX2_columnAt ∈ TBg := (tb_in 405 (by decide +kernel) rfl)
set_option maxRecDepth 20000 in
theorem qX2_68 : Cond.methodLink "ShapedRows$Shapes" 68 yX2_newest ∈ TBg := (tb_in 409 (by decide +kernel) rfl)
set_option maxRecDepth 20000 in
theorem qX2_58 : Cond.methodLink "ShapedRows$Shapes" 58 yX2_placeOfColumn ∈ TBg := (tb_in 410 (by decide +kernel) rfl)
set_option maxRecDepth 20000 in
theorem qX5_258 : Cond.methodLink "ShapedRows" 258 yX5_mixedRow ∈ TBg := (tb_in 414 (by decide +kernel) rfl)
set_option maxRecDepth 20000 in
theorem qX5_229 : Cond.methodLink "ShapedRows" 229 yX3_rowProperty ∈ TBg := (tb_in 418 (by decide +kernel) rfl)
set_option maxRecDepth 20000 in
theorem qX3_130 : Cond.methodLink "ShapedRows$State" 130 yX1_rewritesOf ∈ TBg := (tb_in 422 (by decide +kernel) rfl)
set_option maxRecDepth 20000 in
theorem qX3_133 : Cond.methodLink "ShapedRows$State" 133 yX3_sumRead ∈ TBg := (tb_in 426 (by decide +kernel) rfl)
set_option maxRecDepth 20000 in
theorem qX3_61 : Cond.methodLink "ShapedRows$State" 61 yX3_valuesRead ∈ TBg := (tb_in 430 (by decide +kernel) rfl)
set_option maxRecDepth 20000 in
theorem qX3_44 : Cond.methodLink "ShapedRows$State" 44 yX1_copyValues ∈ TBg := (tb_in 434 (by decide +kernel) rfl)
set_option maxRecDepth 20000 in
theorem qX3_51 : Cond.methodLink "ShapedRows$State" 51 yX2_carryForth ∈ TBg := (tb_in 441 (by decide +kernel) rfl)
set_option maxRecDepth 20000 in
theorem qX2_97 : Cond.methodLink "ShapedRows$Shapes" 97 yJ9_min_7cf53 ∈ TBg := (tb_in 447 (by decide +kernel) rfl)
set_option maxRecDepth 20000 in
theorem qX3_54 : Cond.methodLink "ShapedRows$State" 54 yX2_carryBack ∈ TBg := (tb_in 448 (by decide +kernel) rfl)
set_option maxRecDepth 20000 in
theorem qX3_108 : Cond.methodLink "ShapedRows$State" 108 yX2_columnAt ∈ TBg := (tb_in 452 (by decide +kernel) rfl)
set_option maxRecDepth 20000 in
theorem qX5_313 : Cond.methodLink "ShapedRows" 313 yX3_valuesRead ∈ TBg := (tb_in 453 (by decide +kernel) rfl)
set_option maxRecDepth 20000 in
theorem qX5_317 : Cond.methodLink "ShapedRows" 317 yX2_columnAt ∈ TBg := (tb_in 454 (by decide +kernel) rfl)
set_option maxRecDepth 20000 in
theorem qX5_320 : Cond.methodLink "ShapedRows" 320 yX5_at ∈ TBg := (tb_in 455 (by decide +kernel) rfl)
set_option maxRecDepth 20000 in
theorem qX5_235 : Cond.methodLink "ShapedRows" 235 yX3_valuesLost ∈ TBg := (tb_in 456 (by decide +kernel) rfl)
set_option maxRecDepth 20000 in
theorem qX3_111 : Cond.methodLink "ShapedRows$State" 111 yX1_value ∈ TBg := (tb_in 460 (by decide +kernel) rfl)
set_option maxRecDepth 20000 in
theorem qX5_213 : Cond.methodLink "ShapedRows" 213 yX3_heldBy ∈ TBg := (tb_in 464 (by decide +kernel) rfl)
set_option maxRecDepth 20000 in
theorem qX5_238 : Cond.methodLink "ShapedRows" 238 yX3_stepsLeft ∈ TBg := (tb_in 465 (by decide +kernel) rfl)
set_option maxRecDepth 20000 in
theorem qX3_87 : Cond.methodLink "ShapedRows$State" 87 yX1_nextRow ∈ TBg := (tb_in 469 (by decide +kernel) rfl)
set_option maxRecDepth 20000 in
theorem qX1_50 : Cond.methodLink "ShapedRows$Rows" 50 yX1_isThere ∈ TBg := (tb_in 473 (by decide +kernel) rfl)
set_option maxRecDepth 20000 in
theorem qX3_90 : Cond.methodLink "ShapedRows$State" 90 yX3_isBehind ∈ TBg := (tb_in 477 (by decide +kernel) rfl)
set_option maxRecDepth 20000 in
theorem qX5_241 : Cond.methodLink "ShapedRows" 241 yX3_rowsWith ∈ TBg := (tb_in 481 (by decide +kernel) rfl)
set_option maxRecDepth 20000 in
theorem qX3_114 : Cond.methodLink "ShapedRows$State" 114 yX3_valueRead ∈ TBg := (tb_in 485 (by decide +kernel) rfl)
set_option maxRecDepth 20000 in
theorem qX3_57 : Cond.methodLink "ShapedRows$State" 57 yX2_columnOfLetter ∈ TBg := (tb_in 489 (by decide +kernel) rfl)
set_option maxRecDepth 20000 in
theorem qX5_262 : Cond.methodLink "ShapedRows" 262 yX5_freshShare ∈ TBg := (tb_in 493 (by decide +kernel) rfl)
set_option maxRecDepth 20000 in
theorem qX5_266 : Cond.methodLink "ShapedRows" 266 yX5_bitsOfShare ∈ TBg := (tb_in 497 (by decide +kernel) rfl)
set_option maxRecDepth 20000 in
theorem qX5_270 : Cond.methodLink "ShapedRows" 270 yX5_mixedText ∈ TBg := (tb_in 503 (by decide +kernel) rfl)
set_option maxRecDepth 20000 in
theorem qX5_188 : Cond.methodLink "ShapedRows" 188 yX4_length ∈ TBg := (tb_in 507 (by decide +kernel) rfl)
set_option maxRecDepth 20000 in
theorem qX5_289 : Cond.methodLink "ShapedRows" 289 yX4_code ∈ TBg := (tb_in 511 (by decide +kernel) rfl)
set_option maxRecDepth 20000 in
theorem qL_79 : Cond.methodLink "ShapedRowsLaw" 79 yL_cell ∈ TBg := (tb_in 516 (by decide +kernel) rfl)
set_option maxRecDepth 20000 in
theorem qL_87 : Cond.methodLink "ShapedRowsLaw" 87 yL_acts ∈ TBg := (tb_in 519 (by decide +kernel) rfl)
set_option maxRecDepth 20000 in
theorem qL_14 : Cond.methodLink "ShapedRowsLaw" 14 yX5_shape ∈ TBg := (tb_in 522 (by decide +kernel) rfl)
set_option maxRecDepth 20000 in
theorem qX5_216 : Cond.methodLink "ShapedRows" 216 yX2_isThere ∈ TBg := (tb_in 526 (by decide +kernel) rfl)
set_option maxRecDepth 20000 in
theorem qL_18 : Cond.methodLink "ShapedRowsLaw" 18 yL_low ∈ TBg := (tb_in 546 (by decide +kernel) rfl)
set_option maxRecDepth 20000 in
theorem qL_23 : Cond.methodLink "ShapedRowsLaw" 23 yX5_addNumber ∈ TBg := (tb_in 550 (by decide +kernel) rfl)
set_option maxRecDepth 20000 in
theorem qX5_30 : Cond.methodLink "ShapedRows" 30 yX5_isLetter ∈ TBg := (tb_in 554 (by decide +kernel) rfl)
set_option maxRecDepth 20000 in
theorem qX5_34 : Cond.methodLink "ShapedRows" 34 yX5_isNumber ∈ TBg := (tb_in 557 (by decide +kernel) rfl)
set_option maxRecDepth 20000 in
theorem qX5_48 : Cond.methodLink "ShapedRows" 48 yX2_canAdd ∈ TBg := (tb_in 561 (by decide +kernel) rfl)
set_option maxRecDepth 20000 in
theorem qX2_72 : Cond.methodLink "ShapedRows$Shapes" 72 yX2_isFull ∈ TBg := (tb_in 565 (by decide +kernel) rfl)
set_option maxRecDepth 20000 in
theorem qX2_76 : Cond.methodLink "ShapedRows$Shapes" 76 yX2_newestHas ∈ TBg := (tb_in 569 (by decide +kernel) rfl)
set_option maxRecDepth 20000 in
theorem qX5_58 : Cond.methodLink "ShapedRows" 58 yX0_save ∈ TBg := (tb_in 574 (by decide +kernel) rfl)
set_option maxRecDepth 20000 in
theorem qX0_22 : Cond.methodLink "ShapedRows$History" 22 yX0_dropOldest ∈ TBg := (tb_in 578 (by decide +kernel) rfl)
set_option maxRecDepth 20000 in
theorem qX5_62 : Cond.methodLink "ShapedRows" 62 yX2_extendByNumber ∈ TBg := (tb_in 582 (by decide +kernel) rfl)
set_option maxRecDepth 20000 in
theorem qX2_79 : Cond.methodLink "ShapedRows$Shapes" 79 yX2_comeBy ∈ TBg := (tb_in 586 (by decide +kernel) rfl)
set_option maxRecDepth 20000 in
theorem qX2_86 : Cond.methodLink "ShapedRows$Shapes" 86 yX2_addLast ∈ TBg := (tb_in 590 (by decide +kernel) rfl)
set_option maxRecDepth 20000 in
theorem qL_26 : Cond.methodLink "ShapedRowsLaw" 26 yX5_addCopy ∈ TBg := (tb_in 594 (by decide +kernel) rfl)
set_option maxRecDepth 20000 in
theorem qX5_66 : Cond.methodLink "ShapedRows" 66 yX5_isLetterOrNone ∈ TBg := (tb_in 598 (by decide +kernel) rfl)
set_option maxRecDepth 20000 in
theorem qX5_71 : Cond.methodLink "ShapedRows" 71 yX2_canAddFrom ∈ TBg := (tb_in 602 (by decide +kernel) rfl)
set_option maxRecDepth 20000 in
theorem qX5_77 : Cond.methodLink "ShapedRows" 77 yX2_extendFrom ∈ TBg := (tb_in 607 (by decide +kernel) rfl)
set_option maxRecDepth 20000 in
theorem qX2_90 : Cond.methodLink "ShapedRows$Shapes" 90 yX2_columnOfLetter ∈ TBg := (tb_in 611 (by decide +kernel) rfl)
set_option maxRecDepth 20000 in
theorem qL_30 : Cond.methodLink "ShapedRowsLaw" 30 yX5_drop ∈ TBg := (tb_in 612 (by decide +kernel) rfl)
set_option maxRecDepth 20000 in
theorem qX5_81 : Cond.methodLink "ShapedRows" 81 yX2_canDrop ∈ TBg := (tb_in 616 (by decide +kernel) rfl)
set_option maxRecDepth 20000 in
theorem qX5_86 : Cond.methodLink "ShapedRows" 86 yX2_leaveOut ∈ TBg := (tb_in 621 (by decide +kernel) rfl)
set_option maxRecDepth 20000 in
theorem qX2_93 : Cond.methodLink "ShapedRows$Shapes" 93 yX2_closeGap ∈ TBg := (tb_in 625 (by decide +kernel) rfl)
set_option maxRecDepth 20000 in
theorem qL_33 : Cond.methodLink "ShapedRowsLaw" 33 yX5_rename ∈ TBg := (tb_in 629 (by decide +kernel) rfl)
set_option maxRecDepth 20000 in
theorem qX5_89 : Cond.methodLink "ShapedRows" 89 yX2_canRename ∈ TBg := (tb_in 633 (by decide +kernel) rfl)
set_option maxRecDepth 20000 in
theorem qX5_93 : Cond.methodLink "ShapedRows" 93 yX2_exchangeLetter ∈ TBg := (tb_in 637 (by decide +kernel) rfl)
set_option maxRecDepth 20000 in
theorem qL_36 : Cond.methodLink "ShapedRowsLaw" 36 yX5_insertBy ∈ TBg := (tb_in 641 (by decide +kernel) rfl)
set_option maxRecDepth 20000 in
theorem qX5_116 : Cond.methodLink "ShapedRows" 116 yX2_isUsable ∈ TBg := (tb_in 645 (by decide +kernel) rfl)
set_option maxRecDepth 20000 in
theorem qX2_40 : Cond.methodLink "ShapedRows$Shapes" 40 yX2_isThere ∈ TBg := (tb_in 649 (by decide +kernel) rfl)
set_option maxRecDepth 20000 in
theorem qX2_44 : Cond.methodLink "ShapedRows$Shapes" 44 yX2_isRetired ∈ TBg := (tb_in 650 (by decide +kernel) rfl)
set_option maxRecDepth 20000 in
theorem qX5_100 : Cond.methodLink "ShapedRows" 100 yX1_isFull ∈ TBg := (tb_in 652 (by decide +kernel) rfl)
set_option maxRecDepth 20000 in
theorem qX5_112 : Cond.methodLink "ShapedRows" 112 yX1_addRow ∈ TBg := (tb_in 657 (by decide +kernel) rfl)
set_option maxRecDepth 20000 in
theorem qL_39 : Cond.methodLink "ShapedRowsLaw" 39 yX5_goOn ∈ TBg := (tb_in 661 (by decide +kernel) rfl)
set_option maxRecDepth 20000 in
theorem qX5_150 : Cond.methodLink "ShapedRows" 150 yX3_stepOn ∈ TBg := (tb_in 666 (by decide +kernel) rfl)
set_option maxRecDepth 20000 in
theorem qX3_77 : Cond.methodLink "ShapedRows$State" 77 yX1_rewritten ∈ TBg := (tb_in 670 (by decide +kernel) rfl)
set_option maxRecDepth 20000 in
theorem qX3_81 : Cond.methodLink "ShapedRows$State" 81 yX3_stepOnce ∈ TBg := (tb_in 671 (by decide +kernel) rfl)
set_option maxRecDepth 20000 in
theorem qX3_69 : Cond.methodLink "ShapedRows$State" 69 yX1_rewrite ∈ TBg := (tb_in 675 (by decide +kernel) rfl)
set_option maxRecDepth 20000 in
theorem qX1_46 : Cond.methodLink "ShapedRows$Rows" 46 yX1_rewritesOf ∈ TBg := (tb_in 679 (by decide +kernel) rfl)
set_option maxRecDepth 20000 in
theorem qX3_147 : Cond.methodLink "ShapedRows$State" 147 yX1_setCursor ∈ TBg := (tb_in 680 (by decide +kernel) rfl)
set_option maxRecDepth 20000 in
theorem qL_42 : Cond.methodLink "ShapedRowsLaw" 42 yX5_remove ∈ TBg := (tb_in 684 (by decide +kernel) rfl)
set_option maxRecDepth 20000 in
theorem qX5_124 : Cond.methodLink "ShapedRows" 124 yX1_isThere ∈ TBg := (tb_in 688 (by decide +kernel) rfl)
set_option maxRecDepth 20000 in
theorem qX5_145 : Cond.methodLink "ShapedRows" 145 yX1_takeOut ∈ TBg := (tb_in 690 (by decide +kernel) rfl)
set_option maxRecDepth 20000 in
theorem qX1_42 : Cond.methodLink "ShapedRows$Rows" 42 yX1_moveDown ∈ TBg := (tb_in 694 (by decide +kernel) rfl)
set_option maxRecDepth 20000 in
theorem qX1_58 : Cond.methodLink "ShapedRows$Rows" 58 yX1_shapeOf ∈ TBg := (tb_in 698 (by decide +kernel) rfl)
set_option maxRecDepth 20000 in
theorem qX1_61 : Cond.methodLink "ShapedRows$Rows" 61 yX1_value ∈ TBg := (tb_in 699 (by decide +kernel) rfl)
set_option maxRecDepth 20000 in
theorem qL_45 : Cond.methodLink "ShapedRowsLaw" 45 yX5_hold ∈ TBg := (tb_in 700 (by decide +kernel) rfl)
set_option maxRecDepth 20000 in
theorem qX5_153 : Cond.methodLink "ShapedRows" 153 yX5_isReader ∈ TBg := (tb_in 704 (by decide +kernel) rfl)
set_option maxRecDepth 20000 in
theorem qX5_158 : Cond.methodLink "ShapedRows" 158 yX3_letHold ∈ TBg := (tb_in 708 (by decide +kernel) rfl)
set_option maxRecDepth 20000 in
theorem qL_48 : Cond.methodLink "ShapedRowsLaw" 48 yX5_retire ∈ TBg := (tb_in 713 (by decide +kernel) rfl)
set_option maxRecDepth 20000 in
theorem qX5_166 : Cond.methodLink "ShapedRows" 166 yX2_setMark ∈ TBg := (tb_in 718 (by decide +kernel) rfl)
set_option maxRecDepth 20000 in
theorem qL_51 : Cond.methodLink "ShapedRowsLaw" 51 yL_writes ∈ TBg := (tb_in 722 (by decide +kernel) rfl)
set_option maxRecDepth 20000 in
theorem qL_55 : Cond.methodLink "ShapedRowsLaw" 55 yX5_against ∈ TBg := (tb_in 725 (by decide +kernel) rfl)
set_option maxRecDepth 20000 in
theorem qX5_134 : Cond.methodLink "ShapedRows" 134 yX3_refusal ∈ TBg := (tb_in 731 (by decide +kernel) rfl)
set_option maxRecDepth 20000 in
theorem qX3_65 : Cond.methodLink "ShapedRows$State" 65 yX2_hasColumn ∈ TBg := (tb_in 735 (by decide +kernel) rfl)
set_option maxRecDepth 20000 in
theorem qL_58 : Cond.methodLink "ShapedRowsLaw" 58 yX5_row ∈ TBg := (tb_in 739 (by decide +kernel) rfl)
set_option maxRecDepth 20000 in
theorem qL_61 : Cond.methodLink "ShapedRowsLaw" 61 yX5_write ∈ TBg := (tb_in 743 (by decide +kernel) rfl)
set_option maxRecDepth 20000 in
theorem qX5_129 : Cond.methodLink "ShapedRows" 129 yX5_isValue ∈ TBg := (tb_in 747 (by decide +kernel) rfl)
set_option maxRecDepth 20000 in
theorem qX5_139 : Cond.methodLink "ShapedRows" 139 yX3_writeValue ∈ TBg := (tb_in 753 (by decide +kernel) rfl)
set_option maxRecDepth 20000 in
theorem qX3_73 : Cond.methodLink "ShapedRows$State" 73 yX1_overwrite ∈ TBg := (tb_in 757 (by decide +kernel) rfl)
set_option maxRecDepth 20000 in
theorem qL_65 : Cond.methodLink "ShapedRowsLaw" 65 yX5_read ∈ TBg := (tb_in 761 (by decide +kernel) rfl)
set_option maxRecDepth 20000 in
theorem qX5_208 : Cond.methodLink "ShapedRows" 208 yX3_valueRead ∈ TBg := (tb_in 765 (by decide +kernel) rfl)
set_option maxRecDepth 20000 in
theorem qL_68 : Cond.methodLink "ShapedRowsLaw" 68 yX5_find ∈ TBg := (tb_in 766 (by decide +kernel) rfl)
set_option maxRecDepth 20000 in
theorem qL_95 : Cond.methodLink "ShapedRowsLaw" 95 yL_holds ∈ TBg := (tb_in 770 (by decide +kernel) rfl)
set_option maxRecDepth 20000 in
theorem qL_71 : Cond.methodLink "ShapedRowsLaw" 71 yX5_lost ∈ TBg := (tb_in 773 (by decide +kernel) rfl)
set_option maxRecDepth 20000 in
theorem qL_74 : Cond.methodLink "ShapedRowsLaw" 74 yX5_freshShare ∈ TBg := (tb_in 777 (by decide +kernel) rfl)
set_option maxRecDepth 20000 in
theorem qX5_9 : ("ShapedRows", 9, yX3_init, "ShapedRows") ∈ NL := by decide +kernel
set_option maxRecDepth 20000 in
theorem qX3_11 : ("ShapedRows$State", 11, yX2_init, "ShapedRows") ∈ NL := by decide +kernel
set_option maxRecDepth 20000 in
theorem qX3_20 : ("ShapedRows$State", 20, yX1_init, "ShapedRows") ∈ NL := by decide +kernel
set_option maxRecDepth 20000 in
theorem qX0_21 : ("ShapedRows$History", 21, yX3_init, "ShapedRows") ∈ NL := by decide +kernel
set_option maxRecDepth 20000 in
theorem qX5_25 : ("ShapedRows", 25, yX4_init, "ShapedRows") ∈ NL := by decide +kernel
set_option maxRecDepth 20000 in
theorem qX2_102 : ("ShapedRows$Shapes", 102, yX5_copyAll, "ShapedRows") ∈ NL := by decide +kernel
set_option maxRecDepth 20000 in
theorem qX1_54 : ("ShapedRows$Rows", 54, yX5_copyAll, "ShapedRows") ∈ NL := by decide +kernel
set_option maxRecDepth 20000 in
theorem qX3_143 : ("ShapedRows$State", 143, yX5_copyAll, "ShapedRows") ∈ NL := by decide +kernel
set_option maxRecDepth 20000 in
theorem qX1_34 : ("ShapedRows$Rows", 34, yX5_at, "ShapedRows") ∈ NL := by decide +kernel
set_option maxRecDepth 20000 in
theorem qX2_47 : ("ShapedRows$Shapes", 47, yX5_at, "ShapedRows") ∈ NL := by decide +kernel
set_option maxRecDepth 20000 in
theorem qX3_32 : ("ShapedRows$State", 32, yX5_at, "ShapedRows") ∈ NL := by decide +kernel
set_option maxRecDepth 20000 in
theorem qX1_38 : ("ShapedRows$Rows", 38, yX5_put, "ShapedRows") ∈ NL := by decide +kernel
set_option maxRecDepth 20000 in
theorem qX2_82 : ("ShapedRows$Shapes", 82, yX5_put, "ShapedRows") ∈ NL := by decide +kernel
set_option maxRecDepth 20000 in
theorem qX4_23 : ("ShapedRows$Text", 23, yX5_at, "ShapedRows") ∈ NL := by decide +kernel
set_option maxRecDepth 20000 in
theorem qX3_40 : ("ShapedRows$State", 40, yX5_put, "ShapedRows") ∈ NL := by decide +kernel
set_option maxRecDepth 20000 in
theorem kX2_9 : FLk "ShapedRows$Shapes" 9 2 0 0 false .int := ⟨RX2, TX2, 9, tyX2, rfl, Nat.le_of_ble_eq_true rfl, rfl, uX2, (tb_in 56 (by decide +kernel) rfl), rfl, tyX2_ok, nmX2, rfl, rfl⟩
set_option maxRecDepth 20000 in
theorem kX2_15 : FLk "ShapedRows$Shapes" 15 2 1 0 false .int := ⟨RX2, TX2, 9, tyX2, rfl, Nat.le_of_ble_eq_true rfl, rfl, uX2, (tb_in 57 (by decide +kernel) rfl), rfl, tyX2_ok, nmX2, rfl, rfl⟩
set_option maxRecDepth 20000 in
theorem kX2_18 : FLk "ShapedRows$Shapes" 18 2 2 2 true (.array .int) := ⟨RX2, TX2, 9, tyX2, rfl, Nat.le_of_ble_eq_true rfl, rfl, uX2, (tb_in 58 (by decide +kernel) rfl), rfl, tyX2_ok, nmX2, rfl, rfl⟩
set_option maxRecDepth 20000 in
theorem kX2_22 : FLk "ShapedRows$Shapes" 22 2 3 2 true (.array .int) := ⟨RX2, TX2, 9, tyX2, rfl, Nat.le_of_ble_eq_true rfl, rfl, uX2, (tb_in 59 (by decide +kernel) rfl), rfl, tyX2_ok, nmX2, rfl, rfl⟩
set_option maxRecDepth 20000 in
theorem kX2_25 : FLk "ShapedRows$Shapes" 25 2 4 2 true (.array .int) := ⟨RX2, TX2, 9, tyX2, rfl, Nat.le_of_ble_eq_true rfl, rfl, uX2, (tb_in 60 (by decide +kernel) rfl), rfl, tyX2_ok, nmX2, rfl, rfl⟩
set_option maxRecDepth 20000 in
theorem kX2_28 : FLk "ShapedRows$Shapes" 28 2 5 2 true (.array .int) := ⟨RX2, TX2, 9, tyX2, rfl, Nat.le_of_ble_eq_true rfl, rfl, uX2, (tb_in 61 (by decide +kernel) rfl), rfl, tyX2_ok, nmX2, rfl, rfl⟩
set_option maxRecDepth 20000 in
theorem kX2_31 : FLk "ShapedRows$Shapes" 31 2 6 2 true (.array .int) := ⟨RX2, TX2, 9, tyX2, rfl, Nat.le_of_ble_eq_true rfl, rfl, uX2, (tb_in 62 (by decide +kernel) rfl), rfl, tyX2_ok, nmX2, rfl, rfl⟩
set_option maxRecDepth 20000 in
theorem kX2_34 : FLk "ShapedRows$Shapes" 34 2 7 2 true (.array .int) := ⟨RX2, TX2, 9, tyX2, rfl, Nat.le_of_ble_eq_true rfl, rfl, uX2, (tb_in 63 (by decide +kernel) rfl), rfl, tyX2_ok, nmX2, rfl, rfl⟩
set_option maxRecDepth 20000 in
theorem kX2_37 : FLk "ShapedRows$Shapes" 37 2 8 2 true (.array .int) := ⟨RX2, TX2, 9, tyX2, rfl, Nat.le_of_ble_eq_true rfl, rfl, uX2, (tb_in 64 (by decide +kernel) rfl), rfl, tyX2_ok, nmX2, rfl, rfl⟩
set_option maxRecDepth 20000 in
theorem kX1_9 : FLk "ShapedRows$Rows" 9 1 0 0 false .int := ⟨RX1, TX1, 7, tyX1, rfl, Nat.le_of_ble_eq_true rfl, rfl, uX1, (tb_in 91 (by decide +kernel) rfl), rfl, tyX1_ok, nmX1, rfl, rfl⟩
set_option maxRecDepth 20000 in
theorem kX1_15 : FLk "ShapedRows$Rows" 15 1 1 0 false .int := ⟨RX1, TX1, 7, tyX1, rfl, Nat.le_of_ble_eq_true rfl, rfl, uX1, (tb_in 92 (by decide +kernel) rfl), rfl, tyX1_ok, nmX1, rfl, rfl⟩
set_option maxRecDepth 20000 in
theorem kX1_18 : FLk "ShapedRows$Rows" 18 1 2 0 false .int := ⟨RX1, TX1, 7, tyX1, rfl, Nat.le_of_ble_eq_true rfl, rfl, uX1, (tb_in 93 (by decide +kernel) rfl), rfl, tyX1_ok, nmX1, rfl, rfl⟩
set_option maxRecDepth 20000 in
theorem kX1_21 : FLk "ShapedRows$Rows" 21 1 3 0 false .int := ⟨RX1, TX1, 7, tyX1, rfl, Nat.le_of_ble_eq_true rfl, rfl, uX1, (tb_in 94 (by decide +kernel) rfl), rfl, tyX1_ok, nmX1, rfl, rfl⟩
set_option maxRecDepth 20000 in
theorem kX1_24 : FLk "ShapedRows$Rows" 24 1 4 2 true (.array .int) := ⟨RX1, TX1, 7, tyX1, rfl, Nat.le_of_ble_eq_true rfl, rfl, uX1, (tb_in 95 (by decide +kernel) rfl), rfl, tyX1_ok, nmX1, rfl, rfl⟩
set_option maxRecDepth 20000 in
theorem kX1_28 : FLk "ShapedRows$Rows" 28 1 5 2 true (.array .int) := ⟨RX1, TX1, 7, tyX1, rfl, Nat.le_of_ble_eq_true rfl, rfl, uX1, (tb_in 96 (by decide +kernel) rfl), rfl, tyX1_ok, nmX1, rfl, rfl⟩
set_option maxRecDepth 20000 in
theorem kX1_31 : FLk "ShapedRows$Rows" 31 1 6 2 true (.array .int) := ⟨RX1, TX1, 7, tyX1, rfl, Nat.le_of_ble_eq_true rfl, rfl, uX1, (tb_in 97 (by decide +kernel) rfl), rfl, tyX1_ok, nmX1, rfl, rfl⟩
set_option maxRecDepth 20000 in
theorem kX3_12 : FLk "ShapedRows$State" 12 3 0 2 true (.object "ShapedRows$Shapes") := ⟨RX3, TX3, 4, tyX3, rfl, Nat.le_of_ble_eq_true rfl, rfl, uX3, (tb_in 113 (by decide +kernel) rfl), rfl, tyX3_ok, nmX3, rfl, rfl⟩
set_option maxRecDepth 20000 in
theorem kX5_44 : FLk "ShapedRows" 44 3 0 2 true (.object "ShapedRows$Shapes") := ⟨RX3, TX3, 4, tyX3, rfl, Nat.le_of_ble_eq_true rfl, rfl, uX3, (tb_in 114 (by decide +kernel) rfl), rfl, tyX3_ok, nmX3, rfl, rfl⟩
set_option maxRecDepth 20000 in
theorem kX3_21 : FLk "ShapedRows$State" 21 3 1 2 true (.object "ShapedRows$Rows") := ⟨RX3, TX3, 4, tyX3, rfl, Nat.le_of_ble_eq_true rfl, rfl, uX3, (tb_in 115 (by decide +kernel) rfl), rfl, tyX3_ok, nmX3, rfl, rfl⟩
set_option maxRecDepth 20000 in
theorem kX5_96 : FLk "ShapedRows" 96 3 1 2 true (.object "ShapedRows$Rows") := ⟨RX3, TX3, 4, tyX3, rfl, Nat.le_of_ble_eq_true rfl, rfl, uX3, (tb_in 116 (by decide +kernel) rfl), rfl, tyX3_ok, nmX3, rfl, rfl⟩
set_option maxRecDepth 20000 in
theorem kX3_25 : FLk "ShapedRows$State" 25 3 2 2 true (.array .int) := ⟨RX3, TX3, 4, tyX3, rfl, Nat.le_of_ble_eq_true rfl, rfl, uX3, (tb_in 117 (by decide +kernel) rfl), rfl, tyX3_ok, nmX3, rfl, rfl⟩
set_option maxRecDepth 20000 in
theorem kX3_29 : FLk "ShapedRows$State" 29 3 3 2 true (.array .int) := ⟨RX3, TX3, 4, tyX3, rfl, Nat.le_of_ble_eq_true rfl, rfl, uX3, (tb_in 118 (by decide +kernel) rfl), rfl, tyX3_ok, nmX3, rfl, rfl⟩
set_option maxRecDepth 20000 in
theorem kX0_11 : FLk "ShapedRows$History" 11 0 0 2 true (.array (.object "ShapedRows$State")) := ⟨RX0, TX0, 2, tyX0, rfl, Nat.le_of_ble_eq_true rfl, rfl, uX0, (tb_in 137 (by decide +kernel) rfl), rfl, tyX0_ok, nmX0, rfl, rfl⟩
set_option maxRecDepth 20000 in
theorem kX0_17 : FLk "ShapedRows$History" 17 0 1 0 false .int := ⟨RX0, TX0, 2, tyX0, rfl, Nat.le_of_ble_eq_true rfl, rfl, uX0, (tb_in 138 (by decide +kernel) rfl), rfl, tyX0_ok, nmX0, rfl, rfl⟩
set_option maxRecDepth 20000 in
theorem kX4_9 : FLk "ShapedRows$Text" 9 4 0 2 true (.array .int) := ⟨RX4, TX4, 2, tyX4, rfl, Nat.le_of_ble_eq_true rfl, rfl, uX4, (tb_in 150 (by decide +kernel) rfl), rfl, tyX4_ok, nmX4, rfl, rfl⟩
set_option maxRecDepth 20000 in
theorem kX4_15 : FLk "ShapedRows$Text" 15 4 1 0 false .int := ⟨RX4, TX4, 2, tyX4, rfl, Nat.le_of_ble_eq_true rfl, rfl, uX4, (tb_in 151 (by decide +kernel) rfl), rfl, tyX4_ok, nmX4, rfl, rfl⟩
set_option maxRecDepth 20000 in
theorem kX5_10 : FLk "ShapedRows" 10 5 0 2 true (.object "ShapedRows$State") := ⟨RX5, TX5, 3, tyX5, rfl, Nat.le_of_ble_eq_true rfl, rfl, uX5, (tb_in 157 (by decide +kernel) rfl), rfl, tyX5_ok, nmX5, rfl, rfl⟩
set_option maxRecDepth 20000 in
theorem kX5_19 : FLk "ShapedRows" 19 5 1 2 true (.object "ShapedRows$History") := ⟨RX5, TX5, 3, tyX5, rfl, Nat.le_of_ble_eq_true rfl, rfl, uX5, (tb_in 158 (by decide +kernel) rfl), rfl, tyX5_ok, nmX5, rfl, rfl⟩
set_option maxRecDepth 20000 in
theorem kX5_26 : FLk "ShapedRows" 26 5 2 2 true (.object "ShapedRows$Text") := ⟨RX5, TX5, 3, tyX5, rfl, Nat.le_of_ble_eq_true rfl, rfl, uX5, (tb_in 159 (by decide +kernel) rfl), rfl, tyX5_ok, nmX5, rfl, rfl⟩

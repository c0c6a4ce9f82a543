set_option maxRecDepth 30000 in
theorem mi_X6_row : MI yX6_row cX6_row 4 (some .int) 3 := ⟨tg_in 345 rfl rfl, tg_in 343 rfl rfl, tg_in 344 rfl rfl, tg_in 71 rfl rfl, by decide +kernel, by decide +kernel⟩
set_option maxRecDepth 30000 in
theorem ms_X6_isShelf : MS yX6_isShelf cX6_isShelf 1 (some .boolean) 1 := ⟨tg_in 348 rfl rfl, tg_in 347 rfl rfl, tg_in 71 rfl rfl, by decide +kernel, by decide +kernel⟩
set_option maxRecDepth 30000 in
theorem mi_X6_refused : MI yX6_refused cX6_refused 2 (some .int) 1 := ⟨tg_in 352 rfl rfl, tg_in 351 rfl rfl, tg_in 0 rfl rfl, tg_in 71 rfl rfl, by decide +kernel, by decide +kernel⟩
set_option maxRecDepth 30000 in
theorem ms_X6_isWithin : MS yX6_isWithin cX6_isWithin 3 (some .boolean) 3 := ⟨tg_in 355 rfl rfl, tg_in 354 rfl rfl, tg_in 71 rfl rfl, by decide +kernel, by decide +kernel⟩
set_option maxRecDepth 30000 in
theorem mi_X4_takeRow : MI yX4_takeRow cX4_takeRow 4 none 2 := ⟨tg_in 359 rfl rfl, tg_in 357 rfl rfl, tg_in 358 rfl rfl, tg_in 77 rfl rfl, by decide +kernel, by decide +kernel⟩
set_option maxRecDepth 30000 in
theorem mi_X6_set : MI yX6_set cX6_set 6 (some .int) 3 := ⟨tg_in 363 rfl rfl, tg_in 361 rfl rfl, tg_in 362 rfl rfl, tg_in 71 rfl rfl, by decide +kernel, by decide +kernel⟩
set_option maxRecDepth 30000 in
theorem mi_X6_whyNoRow : MI yX6_whyNoRow cX6_whyNoRow 2 (some .int) 1 := ⟨tg_in 367 rfl rfl, tg_in 366 rfl rfl, tg_in 1 rfl rfl, tg_in 71 rfl rfl, by decide +kernel, by decide +kernel⟩
set_option maxRecDepth 30000 in
theorem mi_X4_holdsRow : MI yX4_holdsRow cX4_holdsRow 1 (some .boolean) 0 := ⟨tg_in 371 rfl rfl, tg_in 369 rfl rfl, tg_in 370 rfl rfl, tg_in 77 rfl rfl, by decide +kernel, by decide +kernel⟩
set_option maxRecDepth 30000 in
theorem mi_X4_hasElement : MI yX4_hasElement cX4_hasElement 2 (some .boolean) 1 := ⟨tg_in 375 rfl rfl, tg_in 373 rfl rfl, tg_in 374 rfl rfl, tg_in 77 rfl rfl, by decide +kernel, by decide +kernel⟩
set_option maxRecDepth 30000 in
theorem mi_X4_put : MI yX4_put cX4_put 4 none 2 := ⟨tg_in 379 rfl rfl, tg_in 377 rfl rfl, tg_in 378 rfl rfl, tg_in 77 rfl rfl, by decide +kernel, by decide +kernel⟩
set_option maxRecDepth 30000 in
theorem mi_X4_lowestBits : MI yX4_lowestBits cX4_lowestBits 3 (some .long) 1 := ⟨tg_in 384 rfl rfl, tg_in 383 rfl rfl, tg_in 2 rfl rfl, tg_in 77 rfl rfl, by decide +kernel, by decide +kernel⟩
set_option maxRecDepth 30000 in
theorem mi_X6_copy : MI yX6_copy cX6_copy 7 (some .int) 5 := ⟨tg_in 388 rfl rfl, tg_in 386 rfl rfl, tg_in 387 rfl rfl, tg_in 71 rfl rfl, by decide +kernel, by decide +kernel⟩
set_option maxRecDepth 30000 in
theorem mi_X6_whyNoCopy : MI yX6_whyNoCopy cX6_whyNoCopy 10 (some .int) 5 := ⟨tg_in 392 rfl rfl, tg_in 391 rfl rfl, tg_in 3 rfl rfl, tg_in 71 rfl rfl, by decide +kernel, by decide +kernel⟩
set_option maxRecDepth 30000 in
theorem mi_X6_element : MI yX6_element cX6_element 3 (some .long) 2 := ⟨tg_in 399 rfl rfl, tg_in 397 rfl rfl, tg_in 398 rfl rfl, tg_in 71 rfl rfl, by decide +kernel, by decide +kernel⟩
set_option maxRecDepth 30000 in
theorem mi_X4_elementAt : MI yX4_elementAt cX4_elementAt 2 (some .long) 1 := ⟨tg_in 403 rfl rfl, tg_in 401 rfl rfl, tg_in 402 rfl rfl, tg_in 77 rfl rfl, by decide +kernel, by decide +kernel⟩
set_option maxRecDepth 30000 in
theorem mi_X6_show : MI yX6_show cX6_show 3 (some .int) 2 := ⟨tg_in 407 rfl rfl, tg_in 405 rfl rfl, tg_in 406 rfl rfl, tg_in 71 rfl rfl, by decide +kernel, by decide +kernel⟩
set_option maxRecDepth 30000 in
theorem mi_X5_hasBiscuit : MI yX5_hasBiscuit cX5_hasBiscuit 2 (some .boolean) 1 := ⟨tg_in 411 rfl rfl, tg_in 409 rfl rfl, tg_in 410 rfl rfl, tg_in 72 rfl rfl, by decide +kernel, by decide +kernel⟩
set_option maxRecDepth 30000 in
theorem mi_X4_takeBiscuit : MI yX4_takeBiscuit cX4_takeBiscuit 2 none 1 := ⟨tg_in 415 rfl rfl, tg_in 413 rfl rfl, tg_in 414 rfl rfl, tg_in 77 rfl rfl, by decide +kernel, by decide +kernel⟩
set_option maxRecDepth 30000 in
theorem mi_X6_holds : MI yX6_holds cX6_holds 2 (some .int) 1 := ⟨tg_in 419 rfl rfl, tg_in 417 rfl rfl, tg_in 418 rfl rfl, tg_in 71 rfl rfl, by decide +kernel, by decide +kernel⟩
set_option maxRecDepth 30000 in
theorem mi_X4_tellsWhatItHolds : MI yX4_tellsWhatItHolds cX4_tellsWhatItHolds 1 (some .int) 0 := ⟨tg_in 423 rfl rfl, tg_in 421 rfl rfl, tg_in 422 rfl rfl, tg_in 77 rfl rfl, by decide +kernel, by decide +kernel⟩
set_option maxRecDepth 30000 in
theorem mi_X6_says : MI yX6_says cX6_says 5 (some .int) 2 := ⟨tg_in 428 rfl rfl, tg_in 426 rfl rfl, tg_in 427 rfl rfl, tg_in 71 rfl rfl, by decide +kernel, by decide +kernel⟩
set_option maxRecDepth 30000 in
theorem mi_X1_isOf : MI yX1_isOf cX1_isOf 4 (some .boolean) 1 := ⟨tg_in 432 rfl rfl, tg_in 430 rfl rfl, tg_in 431 rfl rfl, tg_in 73 rfl rfl, by decide +kernel, by decide +kernel⟩
set_option maxRecDepth 30000 in
theorem mi_X6_saysAs : MI yX6_saysAs cX6_saysAs 3 (some .int) 2 := ⟨tg_in 438 rfl rfl, tg_in 437 rfl rfl, tg_in 4 rfl rfl, tg_in 71 rfl rfl, by decide +kernel, by decide +kernel⟩
set_option maxRecDepth 30000 in
theorem mi_X1_soakOf : MI yX1_soakOf cX1_soakOf 4 (some .int) 2 := ⟨tg_in 442 rfl rfl, tg_in 440 rfl rfl, tg_in 441 rfl rfl, tg_in 73 rfl rfl, by decide +kernel, by decide +kernel⟩
set_option maxRecDepth 30000 in
theorem mi_X1_holdsSoWet : MI yX1_holdsSoWet cX1_holdsSoWet 3 (some .int) 1 := ⟨tg_in 446 rfl rfl, tg_in 444 rfl rfl, tg_in 445 rfl rfl, tg_in 73 rfl rfl, by decide +kernel, by decide +kernel⟩
set_option maxRecDepth 30000 in
theorem mi_X6_biscuit : MI yX6_biscuit cX6_biscuit 4 (some .int) 3 := ⟨tg_in 450 rfl rfl, tg_in 448 rfl rfl, tg_in 449 rfl rfl, tg_in 71 rfl rfl, by decide +kernel, by decide +kernel⟩
set_option maxRecDepth 30000 in
theorem mi_X5_hasRoom : MI yX5_hasRoom cX5_hasRoom 1 (some .boolean) 0 := ⟨tg_in 454 rfl rfl, tg_in 452 rfl rfl, tg_in 453 rfl rfl, tg_in 72 rfl rfl, by decide +kernel, by decide +kernel⟩
set_option maxRecDepth 30000 in
theorem mi_X5_addBiscuit : MI yX5_addBiscuit cX5_addBiscuit 4 (some .int) 3 := ⟨tg_in 458 rfl rfl, tg_in 456 rfl rfl, tg_in 457 rfl rfl, tg_in 72 rfl rfl, by decide +kernel, by decide +kernel⟩
set_option maxRecDepth 30000 in
theorem mi_X1_becomeNew : MI yX1_becomeNew cX1_becomeNew 4 none 3 := ⟨tg_in 463 rfl rfl, tg_in 461 rfl rfl, tg_in 462 rfl rfl, tg_in 73 rfl rfl, by decide +kernel, by decide +kernel⟩
set_option maxRecDepth 30000 in
theorem mi_X1_dry : MI yX1_dry cX1_dry 2 none 0 := ⟨tg_in 467 rfl rfl, tg_in 465 rfl rfl, tg_in 466 rfl rfl, tg_in 73 rfl rfl, by decide +kernel, by decide +kernel⟩
set_option maxRecDepth 30000 in
theorem mi_X6_biscuitOf : MI yX6_biscuitOf cX6_biscuitOf 4 (some .int) 2 := ⟨tg_in 471 rfl rfl, tg_in 469 rfl rfl, tg_in 470 rfl rfl, tg_in 71 rfl rfl, by decide +kernel, by decide +kernel⟩
set_option maxRecDepth 30000 in
theorem mi_X1_wetOfAll : MI yX1_wetOfAll cX1_wetOfAll 3 (some .int) 0 := ⟨tg_in 475 rfl rfl, tg_in 473 rfl rfl, tg_in 474 rfl rfl, tg_in 73 rfl rfl, by decide +kernel, by decide +kernel⟩
set_option maxRecDepth 30000 in
theorem mi_X1_hasCell : MI yX1_hasCell cX1_hasCell 2 (some .boolean) 1 := ⟨tg_in 479 rfl rfl, tg_in 477 rfl rfl, tg_in 478 rfl rfl, tg_in 73 rfl rfl, by decide +kernel, by decide +kernel⟩
set_option maxRecDepth 30000 in
theorem mi_X6_wet : MI yX6_wet cX6_wet 5 (some .int) 3 := ⟨tg_in 483 rfl rfl, tg_in 481 rfl rfl, tg_in 482 rfl rfl, tg_in 71 rfl rfl, by decide +kernel, by decide +kernel⟩
set_option maxRecDepth 30000 in
theorem mi_X5_hasCellOf : MI yX5_hasCellOf cX5_hasCellOf 3 (some .boolean) 2 := ⟨tg_in 487 rfl rfl, tg_in 485 rfl rfl, tg_in 486 rfl rfl, tg_in 72 rfl rfl, by decide +kernel, by decide +kernel⟩
set_option maxRecDepth 30000 in
theorem mi_X6_ask : MI yX6_ask cX6_ask 4 (some .int) 2 := ⟨tg_in 493 rfl rfl, tg_in 491 rfl rfl, tg_in 492 rfl rfl, tg_in 71 rfl rfl, by decide +kernel, by decide +kernel⟩
set_option maxRecDepth 30000 in
theorem mi_X6_worthOf : MI yX6_worthOf cX6_worthOf 4 (some .int) 2 := ⟨tg_in 497 rfl rfl, tg_in 495 rfl rfl, tg_in 496 rfl rfl, tg_in 71 rfl rfl, by decide +kernel, by decide +kernel⟩
set_option maxRecDepth 30000 in
theorem mi_X6_table : MI yX6_table cX6_table 4 (some .int) 1 := ⟨tg_in 501 rfl rfl, tg_in 499 rfl rfl, tg_in 500 rfl rfl, tg_in 71 rfl rfl, by decide +kernel, by decide +kernel⟩
set_option maxRecDepth 30000 in
theorem mi_X5_takeOver : MI yX5_takeOver cX5_takeOver 3 none 1 := ⟨tg_in 505 rfl rfl, tg_in 503 rfl rfl, tg_in 504 rfl rfl, tg_in 72 rfl rfl, by decide +kernel, by decide +kernel⟩
set_option maxRecDepth 30000 in
theorem mi_X1_become : MI yX1_become cX1_become 2 none 1 := ⟨tg_in 509 rfl rfl, tg_in 507 rfl rfl, tg_in 508 rfl rfl, tg_in 73 rfl rfl, by decide +kernel, by decide +kernel⟩
set_option maxRecDepth 30000 in
theorem mi_X3_read : MI yX3_read cX3_read 6 (some .int) 1 := ⟨tg_in 515 rfl rfl, tg_in 513 rfl rfl, tg_in 514 rfl rfl, tg_in 75 rfl rfl, by decide +kernel, by decide +kernel⟩
set_option maxRecDepth 30000 in
theorem mi_X3_readWord : MI yX3_readWord cX3_readWord 5 (some .int) 0 := ⟨tg_in 520 rfl rfl, tg_in 519 rfl rfl, tg_in 5 rfl rfl, tg_in 75 rfl rfl, by decide +kernel, by decide +kernel⟩
set_option maxRecDepth 30000 in
theorem ms_X3_lettersOf : MS yX3_lettersOf cX3_lettersOf 1 (some (FieldType.object "java/lang/String")) 1 := ⟨tg_in 523 rfl rfl, tg_in 522 rfl rfl, tg_in 75 rfl rfl, by decide +kernel, by decide +kernel⟩
set_option maxRecDepth 30000 in
theorem mi_J0_length_8abf5 : MI yJ0_length_8abf5 cJ0_length_8abf5 1 (some .int) 0 := ⟨tg_in 534 rfl rfl, tg_in 532 rfl rfl, tg_in 533 rfl rfl, tg_in 80 rfl rfl, by decide +kernel, by decide +kernel⟩
set_option maxRecDepth 30000 in
theorem mi_J0_coder_7d493 : MI yJ0_coder_7d493 cJ0_coder_7d493 1 (some (FieldType.byte)) 0 := ⟨tg_in 538 rfl rfl, tg_in 536 rfl rfl, tg_in 537 rfl rfl, tg_in 80 rfl rfl, by decide +kernel, by decide +kernel⟩
set_option maxRecDepth 30000 in
theorem mi_X3_letter : MI yX3_letter cX3_letter 2 (some .int) 1 := ⟨tg_in 544 rfl rfl, tg_in 543 rfl rfl, tg_in 6 rfl rfl, tg_in 75 rfl rfl, by decide +kernel, by decide +kernel⟩
set_option maxRecDepth 30000 in
theorem mi_J0_charAt_5068e : MI yJ0_charAt_5068e cJ0_charAt_5068e 2 (some (FieldType.char)) 1 := ⟨tg_in 548 rfl rfl, tg_in 546 rfl rfl, tg_in 547 rfl rfl, tg_in 80 rfl rfl, by decide +kernel, by decide +kernel⟩
set_option maxRecDepth 30000 in
theorem mi_J0_isLatin1_aae02 : MI yJ0_isLatin1_aae02 cJ0_isLatin1_aae02 1 (some .boolean) 0 := ⟨tg_in 552 rfl rfl, tg_in 550 rfl rfl, tg_in 551 rfl rfl, tg_in 80 rfl rfl, by decide +kernel, by decide +kernel⟩
set_option maxRecDepth 30000 in
theorem ms_J1_charAt_3b067 : MS yJ1_charAt_3b067 cJ1_charAt_3b067 2 (some (FieldType.char)) 2 := ⟨tg_in 555 rfl rfl, tg_in 554 rfl rfl, tg_in 81 rfl rfl, by decide +kernel, by decide +kernel⟩
set_option maxRecDepth 30000 in
theorem ms_J0_checkIndex_df160 : MS yJ0_checkIndex_df160 cJ0_checkIndex_df160 2 none 2 := ⟨tg_in 558 rfl rfl, tg_in 557 rfl rfl, tg_in 80 rfl rfl, by decide +kernel, by decide +kernel⟩
set_option maxRecDepth 30000 in
theorem ms_J3_checkIndex_8e157 : MS yJ3_checkIndex_8e157 cJ3_checkIndex_8e157 3 (some .int) 3 := ⟨tg_in 563 rfl rfl, tg_in 562 rfl rfl, tg_in 82 rfl rfl, by decide +kernel, by decide +kernel⟩
set_option maxRecDepth 30000 in
theorem ms_J2_charAt_3b067 : MS yJ2_charAt_3b067 cJ2_charAt_3b067 2 (some (FieldType.char)) 2 := ⟨tg_in 566 rfl rfl, tg_in 565 rfl rfl, tg_in 83 rfl rfl, by decide +kernel, by decide +kernel⟩
set_option maxRecDepth 30000 in
theorem ms_J2_checkIndex_2214a : MS yJ2_checkIndex_2214a cJ2_checkIndex_2214a 2 none 2 := ⟨tg_in 569 rfl rfl, tg_in 568 rfl rfl, tg_in 83 rfl rfl, by decide +kernel, by decide +kernel⟩
set_option maxRecDepth 30000 in
theorem ms_J2_length_9d52b : MS yJ2_length_9d52b cJ2_length_9d52b 1 (some .int) 1 := ⟨tg_in 572 rfl rfl, tg_in 571 rfl rfl, tg_in 83 rfl rfl, by decide +kernel, by decide +kernel⟩
set_option maxRecDepth 30000 in
theorem ms_J2_getChar_3b067 : MS yJ2_getChar_3b067 cJ2_getChar_3b067 2 (some (FieldType.char)) 2 := ⟨tg_in 576 rfl rfl, tg_in 575 rfl rfl, tg_in 83 rfl rfl, by decide +kernel, by decide +kernel⟩
set_option maxRecDepth 30000 in
theorem mi_X3_standsWhole : MI yX3_standsWhole cX3_standsWhole 3 (some .int) 2 := ⟨tg_in 586 rfl rfl, tg_in 585 rfl rfl, tg_in 7 rfl rfl, tg_in 75 rfl rfl, by decide +kernel, by decide +kernel⟩
set_option maxRecDepth 30000 in
theorem ms_J9_max_7cf53 : MS yJ9_max_7cf53 cJ9_max_7cf53 2 (some .int) 2 := ⟨tg_in 590 rfl rfl, tg_in 589 rfl rfl, tg_in 84 rfl rfl, by decide +kernel, by decide +kernel⟩
set_option maxRecDepth 30000 in
theorem mi_X3_readNumbers : MI yX3_readNumbers cX3_readNumbers 4 (some .boolean) 1 := ⟨tg_in 594 rfl rfl, tg_in 593 rfl rfl, tg_in 8 rfl rfl, tg_in 75 rfl rfl, by decide +kernel, by decide +kernel⟩
set_option maxRecDepth 30000 in
theorem ms_X3_numbersOf : MS yX3_numbersOf cX3_numbersOf 1 (some .int) 1 := ⟨tg_in 597 rfl rfl, tg_in 596 rfl rfl, tg_in 75 rfl rfl, by decide +kernel, by decide +kernel⟩
set_option maxRecDepth 30000 in
theorem mi_X3_takes : MI yX3_takes cX3_takes 2 (some .boolean) 1 := ⟨tg_in 601 rfl rfl, tg_in 600 rfl rfl, tg_in 9 rfl rfl, tg_in 75 rfl rfl, by decide +kernel, by decide +kernel⟩
set_option maxRecDepth 30000 in
theorem mi_X3_readNumber : MI yX3_readNumber cX3_readNumber 6 (some .boolean) 2 := ⟨tg_in 605 rfl rfl, tg_in 604 rfl rfl, tg_in 10 rfl rfl, tg_in 75 rfl rfl, by decide +kernel, by decide +kernel⟩
set_option maxRecDepth 30000 in
theorem mi_X3_mayBe : MI yX3_mayBe cX3_mayBe 4 (some .boolean) 3 := ⟨tg_in 610 rfl rfl, tg_in 609 rfl rfl, tg_in 11 rfl rfl, tg_in 75 rfl rfl, by decide +kernel, by decide +kernel⟩
set_option maxRecDepth 30000 in
theorem mi_X5_dipInTruth : MI yX5_dipInTruth cX5_dipInTruth 5 (some .int) 4 := ⟨tg_in 616 rfl rfl, tg_in 614 rfl rfl, tg_in 615 rfl rfl, tg_in 72 rfl rfl, by decide +kernel, by decide +kernel⟩
set_option maxRecDepth 30000 in
theorem mi_X2_begin : MI yX2_begin cX2_begin 3 none 2 := ⟨tg_in 620 rfl rfl, tg_in 618 rfl rfl, tg_in 619 rfl rfl, tg_in 74 rfl rfl, by decide +kernel, by decide +kernel⟩
set_option maxRecDepth 30000 in
theorem mi_X2_stay : MI yX2_stay cX2_stay 6 none 2 := ⟨tg_in 625 rfl rfl, tg_in 623 rfl rfl, tg_in 624 rfl rfl, tg_in 74 rfl rfl, by decide +kernel, by decide +kernel⟩
set_option maxRecDepth 30000 in
theorem mi_X2_enter : MI yX2_enter cX2_enter 2 none 1 := ⟨tg_in 629 rfl rfl, tg_in 627 rfl rfl, tg_in 628 rfl rfl, tg_in 74 rfl rfl, by decide +kernel, by decide +kernel⟩
set_option maxRecDepth 30000 in
theorem ms_J9_min_7cf53 : MS yJ9_min_7cf53 cJ9_min_7cf53 2 (some .int) 2 := ⟨tg_in 632 rfl rfl, tg_in 631 rfl rfl, tg_in 84 rfl rfl, by decide +kernel, by decide +kernel⟩
set_option maxRecDepth 30000 in
theorem mi_X2_second : MI yX2_second cX2_second 7 (some .boolean) 0 := ⟨tg_in 636 rfl rfl, tg_in 634 rfl rfl, tg_in 635 rfl rfl, tg_in 74 rfl rfl, by decide +kernel, by decide +kernel⟩
set_option maxRecDepth 30000 in
theorem mi_X1_creepInto : MI yX1_creepInto cX1_creepInto 3 (some .int) 1 := ⟨tg_in 641 rfl rfl, tg_in 639 rfl rfl, tg_in 640 rfl rfl, tg_in 73 rfl rfl, by decide +kernel, by decide +kernel⟩
set_option maxRecDepth 30000 in
theorem mi_X1_breakingCell : MI yX1_breakingCell cX1_breakingCell 3 (some .int) 0 := ⟨tg_in 645 rfl rfl, tg_in 643 rfl rfl, tg_in 644 rfl rfl, tg_in 73 rfl rfl, by decide +kernel, by decide +kernel⟩
set_option maxRecDepth 30000 in
theorem mi_X1_loseBelow : MI yX1_loseBelow cX1_loseBelow 2 none 1 := ⟨tg_in 650 rfl rfl, tg_in 648 rfl rfl, tg_in 649 rfl rfl, tg_in 73 rfl rfl, by decide +kernel, by decide +kernel⟩
set_option maxRecDepth 30000 in
theorem mi_X5_pass : MI yX5_pass cX5_pass 2 none 1 := ⟨tg_in 657 rfl rfl, tg_in 655 rfl rfl, tg_in 656 rfl rfl, tg_in 72 rfl rfl, by decide +kernel, by decide +kernel⟩
set_option maxRecDepth 30000 in
theorem mi_X5_heatAfter : MI yX5_heatAfter cX5_heatAfter 3 (some .int) 1 := ⟨tg_in 661 rfl rfl, tg_in 659 rfl rfl, tg_in 660 rfl rfl, tg_in 72 rfl rfl, by decide +kernel, by decide +kernel⟩
set_option maxRecDepth 30000 in
theorem mi_X3_tell : MI yX3_tell cX3_tell 2 none 1 := ⟨tg_in 665 rfl rfl, tg_in 664 rfl rfl, tg_in 12 rfl rfl, tg_in 75 rfl rfl, by decide +kernel, by decide +kernel⟩
set_option maxRecDepth 30000 in
theorem mi_X6_fault : MI yX6_fault cX6_fault 1 (some .int) 0 := ⟨tg_in 671 rfl rfl, tg_in 669 rfl rfl, tg_in 670 rfl rfl, tg_in 71 rfl rfl, by decide +kernel, by decide +kernel⟩
set_option maxRecDepth 30000 in
theorem mi_X6_soak : MI yX6_soak cX6_soak 3 (some .int) 2 := ⟨tg_in 675 rfl rfl, tg_in 673 rfl rfl, tg_in 674 rfl rfl, tg_in 71 rfl rfl, by decide +kernel, by decide +kernel⟩
set_option maxRecDepth 30000 in
theorem mi_X6_cellOf : MI yX6_cellOf cX6_cellOf 4 (some .int) 3 := ⟨tg_in 679 rfl rfl, tg_in 677 rfl rfl, tg_in 678 rfl rfl, tg_in 71 rfl rfl, by decide +kernel, by decide +kernel⟩
set_option maxRecDepth 30000 in
theorem mi_X1_holdsAt : MI yX1_holdsAt cX1_holdsAt 2 (some .int) 1 := ⟨tg_in 683 rfl rfl, tg_in 681 rfl rfl, tg_in 682 rfl rfl, tg_in 73 rfl rfl, by decide +kernel, by decide +kernel⟩
set_option maxRecDepth 30000 in
theorem mi_X1_hangsOn : MI yX1_hangsOn cX1_hangsOn 4 (some .int) 1 := ⟨tg_in 687 rfl rfl, tg_in 685 rfl rfl, tg_in 686 rfl rfl, tg_in 73 rfl rfl, by decide +kernel, by decide +kernel⟩
set_option maxRecDepth 30000 in
theorem mi_X6_breaks : MI yX6_breaks cX6_breaks 2 (some .int) 1 := ⟨tg_in 691 rfl rfl, tg_in 689 rfl rfl, tg_in 690 rfl rfl, tg_in 71 rfl rfl, by decide +kernel, by decide +kernel⟩
set_option maxRecDepth 30000 in
theorem mi_X6_left : MI yX6_left cX6_left 6 (some .int) 4 := ⟨tg_in 696 rfl rfl, tg_in 694 rfl rfl, tg_in 695 rfl rfl, tg_in 71 rfl rfl, by decide +kernel, by decide +kernel⟩
set_option maxRecDepth 30000 in
theorem mi_X6_whyNoDunk : MI yX6_whyNoDunk cX6_whyNoDunk 5 (some .int) 4 := ⟨tg_in 700 rfl rfl, tg_in 699 rfl rfl, tg_in 13 rfl rfl, tg_in 71 rfl rfl, by decide +kernel, by decide +kernel⟩
set_option maxRecDepth 30000 in
theorem ms_X6_mayBeDunk : MS yX6_mayBeDunk cX6_mayBeDunk 3 (some .boolean) 3 := ⟨tg_in 703 rfl rfl, tg_in 702 rfl rfl, tg_in 71 rfl rfl, by decide +kernel, by decide +kernel⟩
set_option maxRecDepth 30000 in
theorem mi_X6_dunkAndCarry : MI yX6_dunkAndCarry cX6_dunkAndCarry 5 none 4 := ⟨tg_in 707 rfl rfl, tg_in 706 rfl rfl, tg_in 14 rfl rfl, tg_in 71 rfl rfl, by decide +kernel, by decide +kernel⟩
set_option maxRecDepth 30000 in
theorem mi_X6_wetness : MI yX6_wetness cX6_wetness 6 (some .int) 5 := ⟨tg_in 713 rfl rfl, tg_in 711 rfl rfl, tg_in 712 rfl rfl, tg_in 71 rfl rfl, by decide +kernel, by decide +kernel⟩
set_option maxRecDepth 30000 in
theorem mi_X6_when : MI yX6_when cX6_when 6 (some .int) 4 := ⟨tg_in 717 rfl rfl, tg_in 715 rfl rfl, tg_in 716 rfl rfl, tg_in 71 rfl rfl, by decide +kernel, by decide +kernel⟩
set_option maxRecDepth 30000 in
theorem mi_X6_longest : MI yX6_longest cX6_longest 6 (some .int) 3 := ⟨tg_in 721 rfl rfl, tg_in 719 rfl rfl, tg_in 720 rfl rfl, tg_in 71 rfl rfl, by decide +kernel, by decide +kernel⟩
set_option maxRecDepth 30000 in
theorem mi_X2_goOnFrom : MI yX2_goOnFrom cX2_goOnFrom 2 none 1 := ⟨tg_in 727 rfl rfl, tg_in 725 rfl rfl, tg_in 726 rfl rfl, tg_in 74 rfl rfl, by decide +kernel, by decide +kernel⟩
set_option maxRecDepth 30000 in
theorem mi_X2_isWhole : MI yX2_isWhole cX2_isWhole 1 (some .boolean) 0 := ⟨tg_in 731 rfl rfl, tg_in 729 rfl rfl, tg_in 730 rfl rfl, tg_in 74 rfl rfl, by decide +kernel, by decide +kernel⟩
set_option maxRecDepth 30000 in
theorem mi_X6_far : MI yX6_far cX6_far 6 (some .int) 3 := ⟨tg_in 735 rfl rfl, tg_in 733 rfl rfl, tg_in 734 rfl rfl, tg_in 71 rfl rfl, by decide +kernel, by decide +kernel⟩
set_option maxRecDepth 30000 in
theorem mi_X6_worth : MI yX6_worth cX6_worth 6 (some .int) 4 := ⟨tg_in 739 rfl rfl, tg_in 737 rfl rfl, tg_in 738 rfl rfl, tg_in 71 rfl rfl, by decide +kernel, by decide +kernel⟩
set_option maxRecDepth 30000 in
theorem mi_X5_worthOfCells : MI yX5_worthOfCells cX5_worthOfCells 5 (some .int) 1 := ⟨tg_in 743 rfl rfl, tg_in 741 rfl rfl, tg_in 742 rfl rfl, tg_in 72 rfl rfl, by decide +kernel, by decide +kernel⟩
set_option maxRecDepth 30000 in
theorem mi_X6_best : MI yX6_best cX6_best 4 (some .int) 3 := ⟨tg_in 748 rfl rfl, tg_in 746 rfl rfl, tg_in 747 rfl rfl, tg_in 71 rfl rfl, by decide +kernel, by decide +kernel⟩
set_option maxRecDepth 30000 in
theorem mi_X1_turnAbout : MI yX1_turnAbout cX1_turnAbout 4 none 0 := ⟨tg_in 753 rfl rfl, tg_in 751 rfl rfl, tg_in 752 rfl rfl, tg_in 73 rfl rfl, by decide +kernel, by decide +kernel⟩
set_option maxRecDepth 30000 in
theorem mi_X6_bestDip : MI yX6_bestDip cX6_bestDip 9 (some .int) 2 := ⟨tg_in 757 rfl rfl, tg_in 756 rfl rfl, tg_in 15 rfl rfl, tg_in 71 rfl rfl, by decide +kernel, by decide +kernel⟩
set_option maxRecDepth 30000 in
theorem mi_X6_twice : MI yX6_twice cX6_twice 6 (some .int) 5 := ⟨tg_in 761 rfl rfl, tg_in 759 rfl rfl, tg_in 760 rfl rfl, tg_in 71 rfl rfl, by decide +kernel, by decide +kernel⟩
set_option maxRecDepth 30000 in
theorem mi_X6_goes : MI yX6_goes cX6_goes 5 (some .int) 3 := ⟨tg_in 765 rfl rfl, tg_in 763 rfl rfl, tg_in 764 rfl rfl, tg_in 71 rfl rfl, by decide +kernel, by decide +kernel⟩
set_option maxRecDepth 30000 in
theorem mi_X6_plate : MI yX6_plate cX6_plate 6 (some .int) 4 := ⟨tg_in 769 rfl rfl, tg_in 767 rfl rfl, tg_in 768 rfl rfl, tg_in 71 rfl rfl, by decide +kernel, by decide +kernel⟩
set_option maxRecDepth 30000 in
theorem mi_X6_fillPlateWorths : MI yX6_fillPlateWorths cX6_fillPlateWorths 7 none 3 := ⟨tg_in 773 rfl rfl, tg_in 772 rfl rfl, tg_in 16 rfl rfl, tg_in 71 rfl rfl, by decide +kernel, by decide +kernel⟩
set_option maxRecDepth 30000 in
theorem mi_X6_findBestOrder : MI yX6_findBestOrder cX6_findBestOrder 7 (some .int) 0 := ⟨tg_in 778 rfl rfl, tg_in 777 rfl rfl, tg_in 17 rfl rfl, tg_in 71 rfl rfl, by decide +kernel, by decide +kernel⟩
set_option maxRecDepth 30000 in
theorem mi_X6_toNextOrder : MI yX6_toNextOrder cX6_toNextOrder 6 (some .boolean) 1 := ⟨tg_in 782 rfl rfl, tg_in 781 rfl rfl, tg_in 18 rfl rfl, tg_in 71 rfl rfl, by decide +kernel, by decide +kernel⟩
set_option maxRecDepth 30000 in
theorem mi_X6_swapInOrder : MI yX6_swapInOrder cX6_swapInOrder 4 none 2 := ⟨tg_in 786 rfl rfl, tg_in 785 rfl rfl, tg_in 19 rfl rfl, tg_in 71 rfl rfl, by decide +kernel, by decide +kernel⟩
set_option maxRecDepth 30000 in
theorem mi_X6_rule : MI yX6_rule cX6_rule 8 (some .int) 4 := ⟨tg_in 790 rfl rfl, tg_in 788 rfl rfl, tg_in 789 rfl rfl, tg_in 71 rfl rfl, by decide +kernel, by decide +kernel⟩
set_option maxRecDepth 30000 in
theorem mi_X6_back : MI yX6_back cX6_back 8 (some .long) 3 := ⟨tg_in 796 rfl rfl, tg_in 794 rfl rfl, tg_in 795 rfl rfl, tg_in 71 rfl rfl, by decide +kernel, by decide +kernel⟩
set_option maxRecDepth 30000 in
theorem mi_X6_whyNotBack : MI yX6_whyNotBack cX6_whyNotBack 4 (some .int) 2 := ⟨tg_in 800 rfl rfl, tg_in 799 rfl rfl, tg_in 20 rfl rfl, tg_in 71 rfl rfl, by decide +kernel, by decide +kernel⟩
set_option maxRecDepth 30000 in
theorem mi_X2_beginDry : MI yX2_beginDry cX2_beginDry 3 none 2 := ⟨tg_in 804 rfl rfl, tg_in 802 rfl rfl, tg_in 803 rfl rfl, tg_in 74 rfl rfl, by decide +kernel, by decide +kernel⟩
set_option maxRecDepth 30000 in
theorem ms_X6_isAsWetAs : MS yX6_isAsWetAs cX6_isAsWetAs 3 (some .boolean) 2 := ⟨tg_in 809 rfl rfl, tg_in 808 rfl rfl, tg_in 71 rfl rfl, by decide +kernel, by decide +kernel⟩
set_option maxRecDepth 30000 in
theorem mi_X6_heats : MI yX6_heats cX6_heats 7 (some .int) 4 := ⟨tg_in 813 rfl rfl, tg_in 811 rfl rfl, tg_in 812 rfl rfl, tg_in 71 rfl rfl, by decide +kernel, by decide +kernel⟩
set_option maxRecDepth 30000 in
theorem mi_X6_fetch : MI yX6_fetch cX6_fetch 5 (some .int) 2 := ⟨tg_in 817 rfl rfl, tg_in 815 rfl rfl, tg_in 816 rfl rfl, tg_in 71 rfl rfl, by decide +kernel, by decide +kernel⟩
set_option maxRecDepth 30000 in
theorem mi_X6_dip : MI yX6_dip cX6_dip 5 (some .int) 3 := ⟨tg_in 821 rfl rfl, tg_in 819 rfl rfl, tg_in 820 rfl rfl, tg_in 71 rfl rfl, by decide +kernel, by decide +kernel⟩
set_option maxRecDepth 30000 in
theorem mi_X6_whyNotInTruth : MI yX6_whyNotInTruth cX6_whyNotInTruth 5 (some .int) 4 := ⟨tg_in 825 rfl rfl, tg_in 824 rfl rfl, tg_in 21 rfl rfl, tg_in 71 rfl rfl, by decide +kernel, by decide +kernel⟩
set_option maxRecDepth 30000 in
theorem mi_X6_carry : MI yX6_carry cX6_carry 4 (some .int) 2 := ⟨tg_in 830 rfl rfl, tg_in 828 rfl rfl, tg_in 829 rfl rfl, tg_in 71 rfl rfl, by decide +kernel, by decide +kernel⟩
set_option maxRecDepth 30000 in
theorem mi_X5_carryInTruth : MI yX5_carryInTruth cX5_carryInTruth 4 (some .int) 3 := ⟨tg_in 834 rfl rfl, tg_in 832 rfl rfl, tg_in 833 rfl rfl, tg_in 72 rfl rfl, by decide +kernel, by decide +kernel⟩
set_option maxRecDepth 30000 in
theorem mi_X6_turn : MI yX6_turn cX6_turn 2 (some .int) 1 := ⟨tg_in 838 rfl rfl, tg_in 836 rfl rfl, tg_in 837 rfl rfl, tg_in 71 rfl rfl, by decide +kernel, by decide +kernel⟩
set_option maxRecDepth 30000 in
theorem mi_X6_eats : MI yX6_eats cX6_eats 3 (some .int) 1 := ⟨tg_in 842 rfl rfl, tg_in 840 rfl rfl, tg_in 841 rfl rfl, tg_in 71 rfl rfl, by decide +kernel, by decide +kernel⟩
set_option maxRecDepth 30000 in
theorem mi_X5_eat : MI yX5_eat cX5_eat 3 (some .int) 1 := ⟨tg_in 846 rfl rfl, tg_in 844 rfl rfl, tg_in 845 rfl rfl, tg_in 72 rfl rfl, by decide +kernel, by decide +kernel⟩
set_option maxRecDepth 30000 in
theorem mi_X6_teas : MI yX6_teas cX6_teas 4 (some .int) 1 := ⟨tg_in 851 rfl rfl, tg_in 849 rfl rfl, tg_in 850 rfl rfl, tg_in 71 rfl rfl, by decide +kernel, by decide +kernel⟩
set_option maxRecDepth 30000 in
theorem mi_X5_takeTea : MI yX5_takeTea cX5_takeTea 5 (some .int) 1 := ⟨tg_in 855 rfl rfl, tg_in 853 rfl rfl, tg_in 854 rfl rfl, tg_in 72 rfl rfl, by decide +kernel, by decide +kernel⟩
set_option maxRecDepth 30000 in
theorem mi_X5_draw : MI yX5_draw cX5_draw 2 (some .int) 1 := ⟨tg_in 859 rfl rfl, tg_in 858 rfl rfl, tg_in 22 rfl rfl, tg_in 72 rfl rfl, by decide +kernel, by decide +kernel⟩
set_option maxRecDepth 30000 in
theorem mi_X6_seed : MI yX6_seed cX6_seed 3 (some .int) 1 := ⟨tg_in 867 rfl rfl, tg_in 865 rfl rfl, tg_in 866 rfl rfl, tg_in 71 rfl rfl, by decide +kernel, by decide +kernel⟩
set_option maxRecDepth 30000 in
theorem mi_X6_act : MI yX6_act cX6_act 4 (some .int) 3 := ⟨tg_in 871 rfl rfl, tg_in 869 rfl rfl, tg_in 870 rfl rfl, tg_in 71 rfl rfl, by decide +kernel, by decide +kernel⟩
set_option maxRecDepth 30000 in
theorem ms_X0_run : MS yX0_run cX0_run 9 (some .int) 5 := ⟨tg_in 874 rfl rfl, tg_in 873 rfl rfl, tg_in 76 rfl rfl, by decide +kernel, by decide +kernel⟩
set_option maxRecDepth 30000 in
theorem ms_X0_ownerOf : MS yX0_ownerOf cX0_ownerOf 4 (some .int) 2 := ⟨tg_in 877 rfl rfl, tg_in 876 rfl rfl, tg_in 76 rfl rfl, by decide +kernel, by decide +kernel⟩
set_option maxRecDepth 30000 in
theorem mi_X0_begins : MI yX0_begins cX0_begins 2 none 1 := ⟨tg_in 885 rfl rfl, tg_in 884 rfl rfl, tg_in 23 rfl rfl, tg_in 76 rfl rfl, by decide +kernel, by decide +kernel⟩
set_option maxRecDepth 30000 in
theorem mi_X6_trace : MI yX6_trace cX6_trace 2 (some .int) 1 := ⟨tg_in 890 rfl rfl, tg_in 888 rfl rfl, tg_in 889 rfl rfl, tg_in 71 rfl rfl, by decide +kernel, by decide +kernel⟩
set_option maxRecDepth 30000 in
theorem mi_X6_image : MI yX6_image cX6_image 1 (some .int) 0 := ⟨tg_in 894 rfl rfl, tg_in 892 rfl rfl, tg_in 893 rfl rfl, tg_in 71 rfl rfl, by decide +kernel, by decide +kernel⟩
set_option maxRecDepth 30000 in
theorem mi_X6_restore : MI yX6_restore cX6_restore 2 (some .int) 0 := ⟨tg_in 898 rfl rfl, tg_in 896 rfl rfl, tg_in 897 rfl rfl, tg_in 71 rfl rfl, by decide +kernel, by decide +kernel⟩
set_option maxRecDepth 30000 in
theorem mi_X6_status : MI yX6_status cX6_status 2 (some .int) 1 := ⟨tg_in 902 rfl rfl, tg_in 900 rfl rfl, tg_in 901 rfl rfl, tg_in 71 rfl rfl, by decide +kernel, by decide +kernel⟩
set_option maxRecDepth 30000 in
theorem mi_X5_cellsOfAll : MI yX5_cellsOfAll cX5_cellsOfAll 3 (some .int) 0 := ⟨tg_in 906 rfl rfl, tg_in 904 rfl rfl, tg_in 905 rfl rfl, tg_in 72 rfl rfl, by decide +kernel, by decide +kernel⟩
set_option maxRecDepth 30000 in
theorem mi_X7_row : MI yX7_row cX7_row 5 (some .int) 3 := ⟨tg_in 1046 rfl rfl, tg_in 1044 rfl rfl, tg_in 1045 rfl rfl, tg_in 78 rfl rfl, by decide +kernel, by decide +kernel⟩
set_option maxRecDepth 30000 in
theorem mi_X7_isShelf : MI yX7_isShelf cX7_isShelf 2 (some .boolean) 1 := ⟨tg_in 1050 rfl rfl, tg_in 1049 rfl rfl, tg_in 24 rfl rfl, tg_in 78 rfl rfl, by decide +kernel, by decide +kernel⟩
set_option maxRecDepth 30000 in
theorem mi_X7_no : MI yX7_no cX7_no 2 (some .int) 1 := ⟨tg_in 1054 rfl rfl, tg_in 1053 rfl rfl, tg_in 25 rfl rfl, tg_in 78 rfl rfl, by decide +kernel, by decide +kernel⟩
set_option maxRecDepth 30000 in
theorem mi_X7_set : MI yX7_set cX7_set 5 (some .int) 3 := ⟨tg_in 1058 rfl rfl, tg_in 1056 rfl rfl, tg_in 1057 rfl rfl, tg_in 78 rfl rfl, by decide +kernel, by decide +kernel⟩
set_option maxRecDepth 30000 in
theorem mi_X7_copy : MI yX7_copy cX7_copy 7 (some .int) 5 := ⟨tg_in 1062 rfl rfl, tg_in 1060 rfl rfl, tg_in 1061 rfl rfl, tg_in 78 rfl rfl, by decide +kernel, by decide +kernel⟩
set_option maxRecDepth 30000 in
theorem mi_X7_element : MI yX7_element cX7_element 3 (some .long) 2 := ⟨tg_in 1066 rfl rfl, tg_in 1064 rfl rfl, tg_in 1065 rfl rfl, tg_in 78 rfl rfl, by decide +kernel, by decide +kernel⟩
set_option maxRecDepth 30000 in
theorem mi_X7_show : MI yX7_show cX7_show 3 (some .int) 2 := ⟨tg_in 1070 rfl rfl, tg_in 1068 rfl rfl, tg_in 1069 rfl rfl, tg_in 78 rfl rfl, by decide +kernel, by decide +kernel⟩
set_option maxRecDepth 30000 in
theorem mi_X7_isBiscuit : MI yX7_isBiscuit cX7_isBiscuit 2 (some .boolean) 1 := ⟨tg_in 1074 rfl rfl, tg_in 1073 rfl rfl, tg_in 26 rfl rfl, tg_in 78 rfl rfl, by decide +kernel, by decide +kernel⟩
set_option maxRecDepth 30000 in
theorem mi_X7_holds : MI yX7_holds cX7_holds 2 (some .int) 1 := ⟨tg_in 1078 rfl rfl, tg_in 1076 rfl rfl, tg_in 1077 rfl rfl, tg_in 78 rfl rfl, by decide +kernel, by decide +kernel⟩
set_option maxRecDepth 30000 in
theorem mi_X7_says : MI yX7_says cX7_says 6 (some .int) 2 := ⟨tg_in 1082 rfl rfl, tg_in 1080 rfl rfl, tg_in 1081 rfl rfl, tg_in 78 rfl rfl, by decide +kernel, by decide +kernel⟩
set_option maxRecDepth 30000 in
theorem mi_X7_soakOf : MI yX7_soakOf cX7_soakOf 7 (some .int) 4 := ⟨tg_in 1086 rfl rfl, tg_in 1085 rfl rfl, tg_in 27 rfl rfl, tg_in 78 rfl rfl, by decide +kernel, by decide +kernel⟩
set_option maxRecDepth 30000 in
theorem mi_X7_biscuit : MI yX7_biscuit cX7_biscuit 4 (some .int) 3 := ⟨tg_in 1090 rfl rfl, tg_in 1088 rfl rfl, tg_in 1089 rfl rfl, tg_in 78 rfl rfl, by decide +kernel, by decide +kernel⟩
set_option maxRecDepth 30000 in
theorem mi_X7_adds : MI yX7_adds cX7_adds 5 (some .int) 3 := ⟨tg_in 1094 rfl rfl, tg_in 1093 rfl rfl, tg_in 28 rfl rfl, tg_in 78 rfl rfl, by decide +kernel, by decide +kernel⟩
set_option maxRecDepth 30000 in
theorem mi_X7_biscuitOf : MI yX7_biscuitOf cX7_biscuitOf 5 (some .int) 2 := ⟨tg_in 1098 rfl rfl, tg_in 1096 rfl rfl, tg_in 1097 rfl rfl, tg_in 78 rfl rfl, by decide +kernel, by decide +kernel⟩
set_option maxRecDepth 30000 in
theorem mi_X7_isCell : MI yX7_isCell cX7_isCell 3 (some .boolean) 2 := ⟨tg_in 1102 rfl rfl, tg_in 1101 rfl rfl, tg_in 29 rfl rfl, tg_in 78 rfl rfl, by decide +kernel, by decide +kernel⟩
set_option maxRecDepth 30000 in
theorem mi_X7_wet : MI yX7_wet cX7_wet 5 (some .int) 3 := ⟨tg_in 1106 rfl rfl, tg_in 1104 rfl rfl, tg_in 1105 rfl rfl, tg_in 78 rfl rfl, by decide +kernel, by decide +kernel⟩
set_option maxRecDepth 30000 in
theorem mi_X7_ask : MI yX7_ask cX7_ask 4 (some .int) 2 := ⟨tg_in 1110 rfl rfl, tg_in 1108 rfl rfl, tg_in 1109 rfl rfl, tg_in 78 rfl rfl, by decide +kernel, by decide +kernel⟩
set_option maxRecDepth 30000 in
theorem mi_X7_worthOf : MI yX7_worthOf cX7_worthOf 4 (some .int) 2 := ⟨tg_in 1114 rfl rfl, tg_in 1112 rfl rfl, tg_in 1113 rfl rfl, tg_in 78 rfl rfl, by decide +kernel, by decide +kernel⟩
set_option maxRecDepth 30000 in
theorem mi_X7_table : MI yX7_table cX7_table 5 (some .int) 1 := ⟨tg_in 1118 rfl rfl, tg_in 1116 rfl rfl, tg_in 1117 rfl rfl, tg_in 78 rfl rfl, by decide +kernel, by decide +kernel⟩
set_option maxRecDepth 30000 in
theorem mi_X7_wanted : MI yX7_wanted cX7_wanted 2 (some .int) 1 := ⟨tg_in 1122 rfl rfl, tg_in 1121 rfl rfl, tg_in 30 rfl rfl, tg_in 78 rfl rfl, by decide +kernel, by decide +kernel⟩
set_option maxRecDepth 30000 in
theorem mi_X7_all : MI yX7_all cX7_all 4 none 2 := ⟨tg_in 1126 rfl rfl, tg_in 1125 rfl rfl, tg_in 31 rfl rfl, tg_in 78 rfl rfl, by decide +kernel, by decide +kernel⟩
set_option maxRecDepth 30000 in
theorem mi_X7_carries : MI yX7_carries cX7_carries 7 (some .int) 5 := ⟨tg_in 1130 rfl rfl, tg_in 1129 rfl rfl, tg_in 32 rfl rfl, tg_in 78 rfl rfl, by decide +kernel, by decide +kernel⟩
set_option maxRecDepth 30000 in
theorem mi_X7_item : MI yX7_item cX7_item 5 (some .boolean) 0 := ⟨tg_in 1134 rfl rfl, tg_in 1133 rfl rfl, tg_in 33 rfl rfl, tg_in 78 rfl rfl, by decide +kernel, by decide +kernel⟩
set_option maxRecDepth 30000 in
theorem mi_X7_isWordAt : MI yX7_isWordAt cX7_isWordAt 4 (some .boolean) 1 := ⟨tg_in 1138 rfl rfl, tg_in 1137 rfl rfl, tg_in 34 rfl rfl, tg_in 78 rfl rfl, by decide +kernel, by decide +kernel⟩
set_option maxRecDepth 30000 in
theorem mi_X7_wrong : MI yX7_wrong cX7_wrong 2 (some .boolean) 1 := ⟨tg_in 1142 rfl rfl, tg_in 1141 rfl rfl, tg_in 35 rfl rfl, tg_in 78 rfl rfl, by decide +kernel, by decide +kernel⟩
set_option maxRecDepth 30000 in
theorem mi_X7_word : MI yX7_word cX7_word 6 (some .int) 0 := ⟨tg_in 1146 rfl rfl, tg_in 1145 rfl rfl, tg_in 36 rfl rfl, tg_in 78 rfl rfl, by decide +kernel, by decide +kernel⟩
set_option maxRecDepth 30000 in
theorem mi_X7_number : MI yX7_number cX7_number 2 (some .boolean) 0 := ⟨tg_in 1150 rfl rfl, tg_in 1149 rfl rfl, tg_in 37 rfl rfl, tg_in 78 rfl rfl, by decide +kernel, by decide +kernel⟩
set_option maxRecDepth 30000 in
theorem mi_X7_isDigit : MI yX7_isDigit cX7_isDigit 1 (some .boolean) 0 := ⟨tg_in 1154 rfl rfl, tg_in 1153 rfl rfl, tg_in 38 rfl rfl, tg_in 78 rfl rfl, by decide +kernel, by decide +kernel⟩
set_option maxRecDepth 30000 in
theorem mi_X7_isSo : MI yX7_isSo cX7_isSo 3 (some .boolean) 2 := ⟨tg_in 1158 rfl rfl, tg_in 1157 rfl rfl, tg_in 39 rfl rfl, tg_in 78 rfl rfl, by decide +kernel, by decide +kernel⟩
set_option maxRecDepth 30000 in
theorem mi_X7_dips : MI yX7_dips cX7_dips 4 (some .int) 3 := ⟨tg_in 1162 rfl rfl, tg_in 1161 rfl rfl, tg_in 40 rfl rfl, tg_in 78 rfl rfl, by decide +kernel, by decide +kernel⟩
set_option maxRecDepth 30000 in
theorem mi_X7_tries : MI yX7_tries cX7_tries 6 none 5 := ⟨tg_in 1166 rfl rfl, tg_in 1165 rfl rfl, tg_in 41 rfl rfl, tg_in 78 rfl rfl, by decide +kernel, by decide +kernel⟩
set_option maxRecDepth 30000 in
theorem mi_X7_lays : MI yX7_lays cX7_lays 3 none 1 := ⟨tg_in 1170 rfl rfl, tg_in 1169 rfl rfl, tg_in 42 rfl rfl, tg_in 78 rfl rfl, by decide +kernel, by decide +kernel⟩
set_option maxRecDepth 30000 in
theorem mi_X7_dunks : MI yX7_dunks cX7_dunks 7 none 5 := ⟨tg_in 1174 rfl rfl, tg_in 1173 rfl rfl, tg_in 43 rfl rfl, tg_in 78 rfl rfl, by decide +kernel, by decide +kernel⟩
set_option maxRecDepth 30000 in
theorem mi_X7_goesBy : MI yX7_goesBy cX7_goesBy 5 none 2 := ⟨tg_in 1178 rfl rfl, tg_in 1177 rfl rfl, tg_in 44 rfl rfl, tg_in 78 rfl rfl, by decide +kernel, by decide +kernel⟩
set_option maxRecDepth 30000 in
theorem mi_X7_breakOf : MI yX7_breakOf cX7_breakOf 3 (some .int) 1 := ⟨tg_in 1182 rfl rfl, tg_in 1181 rfl rfl, tg_in 45 rfl rfl, tg_in 78 rfl rfl, by decide +kernel, by decide +kernel⟩
set_option maxRecDepth 30000 in
theorem mi_X7_hangsOf : MI yX7_hangsOf cX7_hangsOf 4 (some .int) 1 := ⟨tg_in 1186 rfl rfl, tg_in 1185 rfl rfl, tg_in 46 rfl rfl, tg_in 78 rfl rfl, by decide +kernel, by decide +kernel⟩
set_option maxRecDepth 30000 in
theorem mi_X7_holdsOf : MI yX7_holdsOf cX7_holdsOf 4 (some .int) 2 := ⟨tg_in 1190 rfl rfl, tg_in 1189 rfl rfl, tg_in 47 rfl rfl, tg_in 78 rfl rfl, by decide +kernel, by decide +kernel⟩
set_option maxRecDepth 30000 in
theorem mi_X7_stays : MI yX7_stays cX7_stays 3 none 1 := ⟨tg_in 1194 rfl rfl, tg_in 1193 rfl rfl, tg_in 48 rfl rfl, tg_in 78 rfl rfl, by decide +kernel, by decide +kernel⟩
set_option maxRecDepth 30000 in
theorem mi_X7_passes : MI yX7_passes cX7_passes 2 none 1 := ⟨tg_in 1198 rfl rfl, tg_in 1197 rfl rfl, tg_in 49 rfl rfl, tg_in 78 rfl rfl, by decide +kernel, by decide +kernel⟩
set_option maxRecDepth 30000 in
theorem mi_X7_heatBehind : MI yX7_heatBehind cX7_heatBehind 3 (some .int) 1 := ⟨tg_in 1202 rfl rfl, tg_in 1201 rfl rfl, tg_in 50 rfl rfl, tg_in 78 rfl rfl, by decide +kernel, by decide +kernel⟩
set_option maxRecDepth 30000 in
theorem mi_X7_fault : MI yX7_fault cX7_fault 1 (some .int) 0 := ⟨tg_in 1206 rfl rfl, tg_in 1204 rfl rfl, tg_in 1205 rfl rfl, tg_in 78 rfl rfl, by decide +kernel, by decide +kernel⟩
set_option maxRecDepth 30000 in
theorem mi_X7_soak : MI yX7_soak cX7_soak 3 (some .int) 2 := ⟨tg_in 1210 rfl rfl, tg_in 1208 rfl rfl, tg_in 1209 rfl rfl, tg_in 78 rfl rfl, by decide +kernel, by decide +kernel⟩
set_option maxRecDepth 30000 in
theorem mi_X7_cellOf : MI yX7_cellOf cX7_cellOf 4 (some .int) 3 := ⟨tg_in 1214 rfl rfl, tg_in 1212 rfl rfl, tg_in 1213 rfl rfl, tg_in 78 rfl rfl, by decide +kernel, by decide +kernel⟩
set_option maxRecDepth 30000 in
theorem mi_X7_noFar : MI yX7_noFar cX7_noFar 2 (some .int) 1 := ⟨tg_in 1218 rfl rfl, tg_in 1217 rfl rfl, tg_in 51 rfl rfl, tg_in 78 rfl rfl, by decide +kernel, by decide +kernel⟩
set_option maxRecDepth 30000 in
theorem mi_X7_breaks : MI yX7_breaks cX7_breaks 2 (some .int) 1 := ⟨tg_in 1222 rfl rfl, tg_in 1220 rfl rfl, tg_in 1221 rfl rfl, tg_in 78 rfl rfl, by decide +kernel, by decide +kernel⟩
set_option maxRecDepth 30000 in
theorem mi_X7_noTen : MI yX7_noTen cX7_noTen 2 (some .int) 1 := ⟨tg_in 1226 rfl rfl, tg_in 1225 rfl rfl, tg_in 52 rfl rfl, tg_in 78 rfl rfl, by decide +kernel, by decide +kernel⟩
set_option maxRecDepth 30000 in
theorem mi_X7_left : MI yX7_left cX7_left 5 (some .int) 4 := ⟨tg_in 1230 rfl rfl, tg_in 1228 rfl rfl, tg_in 1229 rfl rfl, tg_in 78 rfl rfl, by decide +kernel, by decide +kernel⟩
set_option maxRecDepth 30000 in
theorem mi_X7_may : MI yX7_may cX7_may 4 (some .boolean) 3 := ⟨tg_in 1234 rfl rfl, tg_in 1233 rfl rfl, tg_in 53 rfl rfl, tg_in 78 rfl rfl, by decide +kernel, by decide +kernel⟩
set_option maxRecDepth 30000 in
theorem mi_X7_isDeep : MI yX7_isDeep cX7_isDeep 2 (some .boolean) 1 := ⟨tg_in 1238 rfl rfl, tg_in 1237 rfl rfl, tg_in 54 rfl rfl, tg_in 78 rfl rfl, by decide +kernel, by decide +kernel⟩
set_option maxRecDepth 30000 in
theorem mi_X7_isLong : MI yX7_isLong cX7_isLong 2 (some .boolean) 1 := ⟨tg_in 1242 rfl rfl, tg_in 1241 rfl rfl, tg_in 55 rfl rfl, tg_in 78 rfl rfl, by decide +kernel, by decide +kernel⟩
set_option maxRecDepth 30000 in
theorem mi_X7_wetness : MI yX7_wetness cX7_wetness 6 (some .int) 5 := ⟨tg_in 1246 rfl rfl, tg_in 1244 rfl rfl, tg_in 1245 rfl rfl, tg_in 78 rfl rfl, by decide +kernel, by decide +kernel⟩
set_option maxRecDepth 30000 in
theorem mi_X7_when : MI yX7_when cX7_when 5 (some .int) 4 := ⟨tg_in 1250 rfl rfl, tg_in 1248 rfl rfl, tg_in 1249 rfl rfl, tg_in 78 rfl rfl, by decide +kernel, by decide +kernel⟩
set_option maxRecDepth 30000 in
theorem mi_X7_longest : MI yX7_longest cX7_longest 6 (some .int) 3 := ⟨tg_in 1254 rfl rfl, tg_in 1252 rfl rfl, tg_in 1253 rfl rfl, tg_in 78 rfl rfl, by decide +kernel, by decide +kernel⟩
set_option maxRecDepth 30000 in
theorem mi_X7_isWhole : MI yX7_isWhole cX7_isWhole 5 (some .boolean) 4 := ⟨tg_in 1258 rfl rfl, tg_in 1257 rfl rfl, tg_in 56 rfl rfl, tg_in 78 rfl rfl, by decide +kernel, by decide +kernel⟩
set_option maxRecDepth 30000 in
theorem mi_X7_far : MI yX7_far cX7_far 6 (some .int) 3 := ⟨tg_in 1262 rfl rfl, tg_in 1260 rfl rfl, tg_in 1261 rfl rfl, tg_in 78 rfl rfl, by decide +kernel, by decide +kernel⟩
set_option maxRecDepth 30000 in
theorem mi_X7_worth : MI yX7_worth cX7_worth 5 (some .int) 4 := ⟨tg_in 1266 rfl rfl, tg_in 1264 rfl rfl, tg_in 1265 rfl rfl, tg_in 78 rfl rfl, by decide +kernel, by decide +kernel⟩
set_option maxRecDepth 30000 in
theorem mi_X7_worthNow : MI yX7_worthNow cX7_worthNow 3 (some .int) 0 := ⟨tg_in 1270 rfl rfl, tg_in 1269 rfl rfl, tg_in 57 rfl rfl, tg_in 78 rfl rfl, by decide +kernel, by decide +kernel⟩
set_option maxRecDepth 30000 in
theorem mi_X7_best : MI yX7_best cX7_best 9 (some .int) 3 := ⟨tg_in 1274 rfl rfl, tg_in 1272 rfl rfl, tg_in 1273 rfl rfl, tg_in 78 rfl rfl, by decide +kernel, by decide +kernel⟩
set_option maxRecDepth 30000 in
theorem mi_X7_turnsRow : MI yX7_turnsRow cX7_turnsRow 4 none 0 := ⟨tg_in 1278 rfl rfl, tg_in 1277 rfl rfl, tg_in 58 rfl rfl, tg_in 78 rfl rfl, by decide +kernel, by decide +kernel⟩
set_option maxRecDepth 30000 in
theorem mi_X7_twice : MI yX7_twice cX7_twice 6 (some .int) 5 := ⟨tg_in 1282 rfl rfl, tg_in 1280 rfl rfl, tg_in 1281 rfl rfl, tg_in 78 rfl rfl, by decide +kernel, by decide +kernel⟩
set_option maxRecDepth 30000 in
theorem mi_X7_goes : MI yX7_goes cX7_goes 4 (some .int) 3 := ⟨tg_in 1286 rfl rfl, tg_in 1284 rfl rfl, tg_in 1285 rfl rfl, tg_in 78 rfl rfl, by decide +kernel, by decide +kernel⟩
set_option maxRecDepth 30000 in
theorem mi_X7_plate : MI yX7_plate cX7_plate 5 (some .int) 4 := ⟨tg_in 1290 rfl rfl, tg_in 1288 rfl rfl, tg_in 1289 rfl rfl, tg_in 78 rfl rfl, by decide +kernel, by decide +kernel⟩
set_option maxRecDepth 30000 in
theorem mi_X7_plates : MI yX7_plates cX7_plates 9 none 6 := ⟨tg_in 1294 rfl rfl, tg_in 1293 rfl rfl, tg_in 59 rfl rfl, tg_in 78 rfl rfl, by decide +kernel, by decide +kernel⟩
set_option maxRecDepth 30000 in
theorem mi_X7_rule : MI yX7_rule cX7_rule 8 (some .int) 4 := ⟨tg_in 1298 rfl rfl, tg_in 1296 rfl rfl, tg_in 1297 rfl rfl, tg_in 78 rfl rfl, by decide +kernel, by decide +kernel⟩
set_option maxRecDepth 30000 in
theorem mi_X7_back : MI yX7_back cX7_back 8 (some .long) 3 := ⟨tg_in 1302 rfl rfl, tg_in 1300 rfl rfl, tg_in 1301 rfl rfl, tg_in 78 rfl rfl, by decide +kernel, by decide +kernel⟩
set_option maxRecDepth 30000 in
theorem mi_X7_bars : MI yX7_bars cX7_bars 4 (some .int) 2 := ⟨tg_in 1306 rfl rfl, tg_in 1305 rfl rfl, tg_in 60 rfl rfl, tg_in 78 rfl rfl, by decide +kernel, by decide +kernel⟩
set_option maxRecDepth 30000 in
theorem mi_X7_isBack : MI yX7_isBack cX7_isBack 7 (some .boolean) 5 := ⟨tg_in 1310 rfl rfl, tg_in 1309 rfl rfl, tg_in 61 rfl rfl, tg_in 78 rfl rfl, by decide +kernel, by decide +kernel⟩
set_option maxRecDepth 30000 in
theorem mi_X7_heats : MI yX7_heats cX7_heats 7 (some .int) 4 := ⟨tg_in 1314 rfl rfl, tg_in 1312 rfl rfl, tg_in 1313 rfl rfl, tg_in 78 rfl rfl, by decide +kernel, by decide +kernel⟩
set_option maxRecDepth 30000 in
theorem mi_X7_fetch : MI yX7_fetch cX7_fetch 5 (some .int) 2 := ⟨tg_in 1318 rfl rfl, tg_in 1316 rfl rfl, tg_in 1317 rfl rfl, tg_in 78 rfl rfl, by decide +kernel, by decide +kernel⟩
set_option maxRecDepth 30000 in
theorem mi_X7_dip : MI yX7_dip cX7_dip 4 (some .int) 3 := ⟨tg_in 1322 rfl rfl, tg_in 1320 rfl rfl, tg_in 1321 rfl rfl, tg_in 78 rfl rfl, by decide +kernel, by decide +kernel⟩
set_option maxRecDepth 30000 in
theorem mi_X7_carry : MI yX7_carry cX7_carry 3 (some .int) 2 := ⟨tg_in 1326 rfl rfl, tg_in 1324 rfl rfl, tg_in 1325 rfl rfl, tg_in 78 rfl rfl, by decide +kernel, by decide +kernel⟩
set_option maxRecDepth 30000 in
theorem mi_X7_carriesOff : MI yX7_carriesOff cX7_carriesOff 3 (some .int) 2 := ⟨tg_in 1330 rfl rfl, tg_in 1329 rfl rfl, tg_in 62 rfl rfl, tg_in 78 rfl rfl, by decide +kernel, by decide +kernel⟩
set_option maxRecDepth 30000 in
theorem mi_X7_turn : MI yX7_turn cX7_turn 2 (some .int) 1 := ⟨tg_in 1334 rfl rfl, tg_in 1332 rfl rfl, tg_in 1333 rfl rfl, tg_in 78 rfl rfl, by decide +kernel, by decide +kernel⟩
set_option maxRecDepth 30000 in
theorem mi_X7_turns : MI yX7_turns cX7_turns 5 none 1 := ⟨tg_in 1338 rfl rfl, tg_in 1337 rfl rfl, tg_in 63 rfl rfl, tg_in 78 rfl rfl, by decide +kernel, by decide +kernel⟩
set_option maxRecDepth 30000 in
theorem mi_X7_eats : MI yX7_eats cX7_eats 2 (some .int) 1 := ⟨tg_in 1342 rfl rfl, tg_in 1340 rfl rfl, tg_in 1341 rfl rfl, tg_in 78 rfl rfl, by decide +kernel, by decide +kernel⟩
set_option maxRecDepth 30000 in
theorem mi_X7_eaten : MI yX7_eaten cX7_eaten 3 (some .int) 1 := ⟨tg_in 1346 rfl rfl, tg_in 1345 rfl rfl, tg_in 64 rfl rfl, tg_in 78 rfl rfl, by decide +kernel, by decide +kernel⟩
set_option maxRecDepth 30000 in
theorem mi_X7_teas : MI yX7_teas cX7_teas 6 (some .int) 1 := ⟨tg_in 1350 rfl rfl, tg_in 1348 rfl rfl, tg_in 1349 rfl rfl, tg_in 78 rfl rfl, by decide +kernel, by decide +kernel⟩
set_option maxRecDepth 30000 in
theorem mi_X7_draw : MI yX7_draw cX7_draw 2 (some .int) 1 := ⟨tg_in 1354 rfl rfl, tg_in 1353 rfl rfl, tg_in 65 rfl rfl, tg_in 78 rfl rfl, by decide +kernel, by decide +kernel⟩
set_option maxRecDepth 30000 in
theorem mi_X7_seed : MI yX7_seed cX7_seed 3 (some .int) 1 := ⟨tg_in 1359 rfl rfl, tg_in 1357 rfl rfl, tg_in 1358 rfl rfl, tg_in 78 rfl rfl, by decide +kernel, by decide +kernel⟩
set_option maxRecDepth 30000 in
theorem mi_X7_act : MI yX7_act cX7_act 4 (some .int) 3 := ⟨tg_in 1363 rfl rfl, tg_in 1361 rfl rfl, tg_in 1362 rfl rfl, tg_in 78 rfl rfl, by decide +kernel, by decide +kernel⟩
set_option maxRecDepth 30000 in
theorem mi_X7_soaking : MI yX7_soaking cX7_soaking 5 (some .int) 2 := ⟨tg_in 1367 rfl rfl, tg_in 1366 rfl rfl, tg_in 66 rfl rfl, tg_in 78 rfl rfl, by decide +kernel, by decide +kernel⟩
set_option maxRecDepth 30000 in
theorem mi_X7_body : MI yX7_body cX7_body 2 none 1 := ⟨tg_in 1371 rfl rfl, tg_in 1370 rfl rfl, tg_in 67 rfl rfl, tg_in 78 rfl rfl, by decide +kernel, by decide +kernel⟩
set_option maxRecDepth 30000 in
theorem mi_X7_creeping : MI yX7_creeping cX7_creeping 7 (some .int) 2 := ⟨tg_in 1375 rfl rfl, tg_in 1374 rfl rfl, tg_in 68 rfl rfl, tg_in 78 rfl rfl, by decide +kernel, by decide +kernel⟩
set_option maxRecDepth 30000 in
theorem mi_X7_breaking : MI yX7_breaking cX7_breaking 5 (some .int) 2 := ⟨tg_in 1379 rfl rfl, tg_in 1378 rfl rfl, tg_in 69 rfl rfl, tg_in 78 rfl rfl, by decide +kernel, by decide +kernel⟩
set_option maxRecDepth 30000 in
theorem mi_X7_trace : MI yX7_trace cX7_trace 2 (some .int) 1 := ⟨tg_in 1383 rfl rfl, tg_in 1381 rfl rfl, tg_in 1382 rfl rfl, tg_in 78 rfl rfl, by decide +kernel, by decide +kernel⟩
set_option maxRecDepth 30000 in
theorem mi_X7_image : MI yX7_image cX7_image 1 (some .int) 0 := ⟨tg_in 1387 rfl rfl, tg_in 1385 rfl rfl, tg_in 1386 rfl rfl, tg_in 78 rfl rfl, by decide +kernel, by decide +kernel⟩
set_option maxRecDepth 30000 in
theorem mi_X7_restore : MI yX7_restore cX7_restore 2 (some .int) 0 := ⟨tg_in 1391 rfl rfl, tg_in 1389 rfl rfl, tg_in 1390 rfl rfl, tg_in 78 rfl rfl, by decide +kernel, by decide +kernel⟩
set_option maxRecDepth 30000 in
theorem mi_X7_status : MI yX7_status cX7_status 4 (some .int) 1 := ⟨tg_in 1395 rfl rfl, tg_in 1393 rfl rfl, tg_in 1394 rfl rfl, tg_in 78 rfl rfl, by decide +kernel, by decide +kernel⟩
set_option maxRecDepth 30000 in
theorem fl_X1_15 : FL RX1 15 1 0 := ⟨RX1, TX1, 4, rfl, by decide, tg_in 108 rfl rfl⟩
set_option maxRecDepth 30000 in
theorem fp_X1_15 : FP RX1 15 1 0 .int := ⟨RX1, TX1, 4, rfl, by decide, tg_in 108 rfl rfl, rfl, rfl⟩
set_option maxRecDepth 30000 in
theorem fl_X6_159 : FL RX6 159 1 0 := ⟨RX1, TX1, 4, rfl, by decide, tg_in 109 rfl rfl⟩
set_option maxRecDepth 30000 in
theorem fp_X6_159 : FP RX6 159 1 0 .int := ⟨RX1, TX1, 4, rfl, by decide, tg_in 109 rfl rfl, rfl, rfl⟩
set_option maxRecDepth 30000 in
theorem fl_X1_19 : FL RX1 19 1 1 := ⟨RX1, TX1, 4, rfl, by decide, tg_in 110 rfl rfl⟩
set_option maxRecDepth 30000 in
theorem fp_X1_19 : FP RX1 19 1 1 .int := ⟨RX1, TX1, 4, rfl, by decide, tg_in 110 rfl rfl, rfl, rfl⟩
set_option maxRecDepth 30000 in
theorem fl_X6_165 : FL RX6 165 1 1 := ⟨RX1, TX1, 4, rfl, by decide, tg_in 111 rfl rfl⟩
set_option maxRecDepth 30000 in
theorem fp_X6_165 : FP RX6 165 1 1 .int := ⟨RX1, TX1, 4, rfl, by decide, tg_in 111 rfl rfl, rfl, rfl⟩
set_option maxRecDepth 30000 in
theorem fl_X1_22 : FL RX1 22 1 2 := ⟨RX1, TX1, 4, rfl, by decide, tg_in 112 rfl rfl⟩
set_option maxRecDepth 30000 in
theorem fp_X1_22 : FP RX1 22 1 2 .int := ⟨RX1, TX1, 4, rfl, by decide, tg_in 112 rfl rfl, rfl, rfl⟩
set_option maxRecDepth 30000 in
theorem fl_X2_48 : FL RX2 48 1 2 := ⟨RX1, TX1, 4, rfl, by decide, tg_in 113 rfl rfl⟩
set_option maxRecDepth 30000 in
theorem fp_X2_48 : FP RX2 48 1 2 .int := ⟨RX1, TX1, 4, rfl, by decide, tg_in 113 rfl rfl, rfl, rfl⟩
set_option maxRecDepth 30000 in
theorem fl_X5_72 : FL RX5 72 1 2 := ⟨RX1, TX1, 4, rfl, by decide, tg_in 114 rfl rfl⟩
set_option maxRecDepth 30000 in
theorem fp_X5_72 : FP RX5 72 1 2 .int := ⟨RX1, TX1, 4, rfl, by decide, tg_in 114 rfl rfl, rfl, rfl⟩
set_option maxRecDepth 30000 in
theorem fl_X6_162 : FL RX6 162 1 2 := ⟨RX1, TX1, 4, rfl, by decide, tg_in 115 rfl rfl⟩
set_option maxRecDepth 30000 in
theorem fp_X6_162 : FP RX6 162 1 2 .int := ⟨RX1, TX1, 4, rfl, by decide, tg_in 115 rfl rfl, rfl, rfl⟩
set_option maxRecDepth 30000 in
theorem fl_X3_132 : FL RX3 132 1 2 := ⟨RX1, TX1, 4, rfl, by decide, tg_in 116 rfl rfl⟩
set_option maxRecDepth 30000 in
theorem fp_X3_132 : FP RX3 132 1 2 .int := ⟨RX1, TX1, 4, rfl, by decide, tg_in 116 rfl rfl, rfl, rfl⟩
set_option maxRecDepth 30000 in
theorem fl_X1_9 : FL RX1 9 1 3 := ⟨RX1, TX1, 4, rfl, by decide, tg_in 117 rfl rfl⟩
set_option maxRecDepth 30000 in
theorem fl_X5_75 : FL RX5 75 1 3 := ⟨RX1, TX1, 4, rfl, by decide, tg_in 118 rfl rfl⟩
set_option maxRecDepth 30000 in
theorem fl_X2_65 : FL RX2 65 1 3 := ⟨RX1, TX1, 4, rfl, by decide, tg_in 119 rfl rfl⟩
set_option maxRecDepth 30000 in
theorem fl_X6_174 : FL RX6 174 1 3 := ⟨RX1, TX1, 4, rfl, by decide, tg_in 120 rfl rfl⟩
set_option maxRecDepth 30000 in
theorem fl_X3_141 : FL RX3 141 1 3 := ⟨RX1, TX1, 4, rfl, by decide, tg_in 121 rfl rfl⟩
set_option maxRecDepth 30000 in
theorem fl_X5_11 : FL RX5 11 5 0 := ⟨RX5, TX5, 10, rfl, by decide, tg_in 132 rfl rfl⟩
set_option maxRecDepth 30000 in
theorem fl_X6_141 : FL RX6 141 5 0 := ⟨RX5, TX5, 10, rfl, by decide, tg_in 133 rfl rfl⟩
set_option maxRecDepth 30000 in
theorem fl_X3_128 : FL RX3 128 5 0 := ⟨RX5, TX5, 10, rfl, by decide, tg_in 134 rfl rfl⟩
set_option maxRecDepth 30000 in
theorem fl_X5_17 : FL RX5 17 5 1 := ⟨RX5, TX5, 10, rfl, by decide, tg_in 135 rfl rfl⟩
set_option maxRecDepth 30000 in
theorem fl_X3_150 : FL RX3 150 5 1 := ⟨RX5, TX5, 10, rfl, by decide, tg_in 136 rfl rfl⟩
set_option maxRecDepth 30000 in
theorem fl_X6_190 : FL RX6 190 5 1 := ⟨RX5, TX5, 10, rfl, by decide, tg_in 137 rfl rfl⟩
set_option maxRecDepth 30000 in
theorem fl_X5_45 : FL RX5 45 5 2 := ⟨RX5, TX5, 10, rfl, by decide, tg_in 138 rfl rfl⟩
set_option maxRecDepth 30000 in
theorem fp_X5_45 : FP RX5 45 5 2 .int := ⟨RX5, TX5, 10, rfl, by decide, tg_in 138 rfl rfl, rfl, rfl⟩
set_option maxRecDepth 30000 in
theorem fl_X6_270 : FL RX6 270 5 2 := ⟨RX5, TX5, 10, rfl, by decide, tg_in 139 rfl rfl⟩
set_option maxRecDepth 30000 in
theorem fp_X6_270 : FP RX6 270 5 2 .int := ⟨RX5, TX5, 10, rfl, by decide, tg_in 139 rfl rfl, rfl, rfl⟩
set_option maxRecDepth 30000 in
theorem fl_X5_21 : FL RX5 21 5 3 := ⟨RX5, TX5, 10, rfl, by decide, tg_in 140 rfl rfl⟩
set_option maxRecDepth 30000 in
theorem fp_X5_21 : FP RX5 21 5 3 .int := ⟨RX5, TX5, 10, rfl, by decide, tg_in 140 rfl rfl, rfl, rfl⟩
set_option maxRecDepth 30000 in
theorem fl_X6_181 : FL RX6 181 5 3 := ⟨RX5, TX5, 10, rfl, by decide, tg_in 141 rfl rfl⟩
set_option maxRecDepth 30000 in
theorem fp_X6_181 : FP RX6 181 5 3 .int := ⟨RX5, TX5, 10, rfl, by decide, tg_in 141 rfl rfl, rfl, rfl⟩
set_option maxRecDepth 30000 in
theorem fl_X3_144 : FL RX3 144 5 3 := ⟨RX5, TX5, 10, rfl, by decide, tg_in 142 rfl rfl⟩
set_option maxRecDepth 30000 in
theorem fp_X3_144 : FP RX3 144 5 3 .int := ⟨RX5, TX5, 10, rfl, by decide, tg_in 142 rfl rfl, rfl, rfl⟩
set_option maxRecDepth 30000 in
theorem fl_X5_25 : FL RX5 25 5 4 := ⟨RX5, TX5, 10, rfl, by decide, tg_in 143 rfl rfl⟩
set_option maxRecDepth 30000 in
theorem fp_X5_25 : FP RX5 25 5 4 .int := ⟨RX5, TX5, 10, rfl, by decide, tg_in 143 rfl rfl, rfl, rfl⟩
set_option maxRecDepth 30000 in
theorem fl_X6_184 : FL RX6 184 5 4 := ⟨RX5, TX5, 10, rfl, by decide, tg_in 144 rfl rfl⟩
set_option maxRecDepth 30000 in
theorem fp_X6_184 : FP RX6 184 5 4 .int := ⟨RX5, TX5, 10, rfl, by decide, tg_in 144 rfl rfl, rfl, rfl⟩
set_option maxRecDepth 30000 in
theorem fl_X3_146 : FL RX3 146 5 4 := ⟨RX5, TX5, 10, rfl, by decide, tg_in 145 rfl rfl⟩
set_option maxRecDepth 30000 in
theorem fp_X3_146 : FP RX3 146 5 4 .int := ⟨RX5, TX5, 10, rfl, by decide, tg_in 145 rfl rfl, rfl, rfl⟩
set_option maxRecDepth 30000 in
theorem fl_X5_28 : FL RX5 28 5 5 := ⟨RX5, TX5, 10, rfl, by decide, tg_in 146 rfl rfl⟩
set_option maxRecDepth 30000 in
theorem fp_X5_28 : FP RX5 28 5 5 .int := ⟨RX5, TX5, 10, rfl, by decide, tg_in 146 rfl rfl, rfl, rfl⟩
set_option maxRecDepth 30000 in
theorem fl_X6_187 : FL RX6 187 5 5 := ⟨RX5, TX5, 10, rfl, by decide, tg_in 147 rfl rfl⟩
set_option maxRecDepth 30000 in
theorem fp_X6_187 : FP RX6 187 5 5 .int := ⟨RX5, TX5, 10, rfl, by decide, tg_in 147 rfl rfl, rfl, rfl⟩
set_option maxRecDepth 30000 in
theorem fl_X3_148 : FL RX3 148 5 5 := ⟨RX5, TX5, 10, rfl, by decide, tg_in 148 rfl rfl⟩
set_option maxRecDepth 30000 in
theorem fp_X3_148 : FP RX3 148 5 5 .int := ⟨RX5, TX5, 10, rfl, by decide, tg_in 148 rfl rfl, rfl, rfl⟩
set_option maxRecDepth 30000 in
theorem fl_X5_48 : FL RX5 48 5 6 := ⟨RX5, TX5, 10, rfl, by decide, tg_in 149 rfl rfl⟩
set_option maxRecDepth 30000 in
theorem fp_X5_48 : FP RX5 48 5 6 .int := ⟨RX5, TX5, 10, rfl, by decide, tg_in 149 rfl rfl, rfl, rfl⟩
set_option maxRecDepth 30000 in
theorem fl_X6_341 : FL RX6 341 5 6 := ⟨RX5, TX5, 10, rfl, by decide, tg_in 150 rfl rfl⟩
set_option maxRecDepth 30000 in
theorem fp_X6_341 : FP RX6 341 5 6 .int := ⟨RX5, TX5, 10, rfl, by decide, tg_in 150 rfl rfl, rfl, rfl⟩
set_option maxRecDepth 30000 in
theorem fl_X5_51 : FL RX5 51 5 7 := ⟨RX5, TX5, 10, rfl, by decide, tg_in 151 rfl rfl⟩
set_option maxRecDepth 30000 in
theorem fp_X5_51 : FP RX5 51 5 7 .int := ⟨RX5, TX5, 10, rfl, by decide, tg_in 151 rfl rfl, rfl, rfl⟩
set_option maxRecDepth 30000 in
theorem fl_X6_344 : FL RX6 344 5 7 := ⟨RX5, TX5, 10, rfl, by decide, tg_in 152 rfl rfl⟩
set_option maxRecDepth 30000 in
theorem fp_X6_344 : FP RX6 344 5 7 .int := ⟨RX5, TX5, 10, rfl, by decide, tg_in 152 rfl rfl, rfl, rfl⟩
set_option maxRecDepth 30000 in
theorem fl_X5_54 : FL RX5 54 5 8 := ⟨RX5, TX5, 10, rfl, by decide, tg_in 153 rfl rfl⟩
set_option maxRecDepth 30000 in
theorem fp_X5_54 : FP RX5 54 5 8 .int := ⟨RX5, TX5, 10, rfl, by decide, tg_in 153 rfl rfl, rfl, rfl⟩
set_option maxRecDepth 30000 in
theorem fl_X6_347 : FL RX6 347 5 8 := ⟨RX5, TX5, 10, rfl, by decide, tg_in 154 rfl rfl⟩
set_option maxRecDepth 30000 in
theorem fp_X6_347 : FP RX6 347 5 8 .int := ⟨RX5, TX5, 10, rfl, by decide, tg_in 154 rfl rfl, rfl, rfl⟩
set_option maxRecDepth 30000 in
theorem fl_X5_31 : FL RX5 31 5 9 := ⟨RX5, TX5, 10, rfl, by decide, tg_in 155 rfl rfl⟩
set_option maxRecDepth 30000 in
theorem fp_X5_31 : FP RX5 31 5 9 .int := ⟨RX5, TX5, 10, rfl, by decide, tg_in 155 rfl rfl, rfl, rfl⟩
set_option maxRecDepth 30000 in
theorem fl_X6_316 : FL RX6 316 5 9 := ⟨RX5, TX5, 10, rfl, by decide, tg_in 156 rfl rfl⟩
set_option maxRecDepth 30000 in
theorem fp_X6_316 : FP RX6 316 5 9 .int := ⟨RX5, TX5, 10, rfl, by decide, tg_in 156 rfl rfl, rfl, rfl⟩
set_option maxRecDepth 30000 in
theorem fl_X2_12 : FL RX2 12 2 0 := ⟨RX2, TX2, 7, rfl, by decide, tg_in 186 rfl rfl⟩
set_option maxRecDepth 30000 in
theorem fl_X5_102 : FL RX5 102 2 0 := ⟨RX2, TX2, 7, rfl, by decide, tg_in 187 rfl rfl⟩
set_option maxRecDepth 30000 in
theorem fl_X6_225 : FL RX6 225 2 0 := ⟨RX2, TX2, 7, rfl, by decide, tg_in 188 rfl rfl⟩
set_option maxRecDepth 30000 in
theorem fl_X2_22 : FL RX2 22 2 1 := ⟨RX2, TX2, 7, rfl, by decide, tg_in 189 rfl rfl⟩
set_option maxRecDepth 30000 in
theorem fp_X2_22 : FP RX2 22 2 1 .int := ⟨RX2, TX2, 7, rfl, by decide, tg_in 189 rfl rfl, rfl, rfl⟩
set_option maxRecDepth 30000 in
theorem fl_X2_26 : FL RX2 26 2 2 := ⟨RX2, TX2, 7, rfl, by decide, tg_in 190 rfl rfl⟩
set_option maxRecDepth 30000 in
theorem fp_X2_26 : FP RX2 26 2 2 .int := ⟨RX2, TX2, 7, rfl, by decide, tg_in 190 rfl rfl, rfl, rfl⟩
set_option maxRecDepth 30000 in
theorem fl_X2_29 : FL RX2 29 2 3 := ⟨RX2, TX2, 7, rfl, by decide, tg_in 191 rfl rfl⟩
set_option maxRecDepth 30000 in
theorem fp_X2_29 : FP RX2 29 2 3 .int := ⟨RX2, TX2, 7, rfl, by decide, tg_in 191 rfl rfl, rfl, rfl⟩
set_option maxRecDepth 30000 in
theorem fl_X2_32 : FL RX2 32 2 4 := ⟨RX2, TX2, 7, rfl, by decide, tg_in 192 rfl rfl⟩
set_option maxRecDepth 30000 in
theorem fp_X2_32 : FP RX2 32 2 4 .int := ⟨RX2, TX2, 7, rfl, by decide, tg_in 192 rfl rfl, rfl, rfl⟩
set_option maxRecDepth 30000 in
theorem fl_X6_230 : FL RX6 230 2 4 := ⟨RX2, TX2, 7, rfl, by decide, tg_in 193 rfl rfl⟩
set_option maxRecDepth 30000 in
theorem fp_X6_230 : FP RX6 230 2 4 .int := ⟨RX2, TX2, 7, rfl, by decide, tg_in 193 rfl rfl, rfl, rfl⟩
set_option maxRecDepth 30000 in
theorem fl_X2_35 : FL RX2 35 2 5 := ⟨RX2, TX2, 7, rfl, by decide, tg_in 194 rfl rfl⟩
set_option maxRecDepth 30000 in
theorem fp_X2_35 : FP RX2 35 2 5 .int := ⟨RX2, TX2, 7, rfl, by decide, tg_in 194 rfl rfl, rfl, rfl⟩
set_option maxRecDepth 30000 in
theorem fl_X5_109 : FL RX5 109 2 5 := ⟨RX2, TX2, 7, rfl, by decide, tg_in 195 rfl rfl⟩
set_option maxRecDepth 30000 in
theorem fp_X5_109 : FP RX5 109 2 5 .int := ⟨RX2, TX2, 7, rfl, by decide, tg_in 195 rfl rfl, rfl, rfl⟩
set_option maxRecDepth 30000 in
theorem fl_X2_38 : FL RX2 38 2 6 := ⟨RX2, TX2, 7, rfl, by decide, tg_in 196 rfl rfl⟩
set_option maxRecDepth 30000 in
theorem fp_X2_38 : FP RX2 38 2 6 .int := ⟨RX2, TX2, 7, rfl, by decide, tg_in 196 rfl rfl, rfl, rfl⟩
set_option maxRecDepth 30000 in
theorem fl_X5_106 : FL RX5 106 2 6 := ⟨RX2, TX2, 7, rfl, by decide, tg_in 197 rfl rfl⟩
set_option maxRecDepth 30000 in
theorem fp_X5_106 : FP RX5 106 2 6 .int := ⟨RX2, TX2, 7, rfl, by decide, tg_in 197 rfl rfl, rfl, rfl⟩
set_option maxRecDepth 30000 in
theorem fl_X6_267 : FL RX6 267 2 6 := ⟨RX2, TX2, 7, rfl, by decide, tg_in 198 rfl rfl⟩
set_option maxRecDepth 30000 in
theorem fp_X6_267 : FP RX6 267 2 6 .int := ⟨RX2, TX2, 7, rfl, by decide, tg_in 198 rfl rfl, rfl, rfl⟩
set_option maxRecDepth 30000 in
theorem fl_X3_22 : FL RX3 22 3 0 := ⟨RX3, TX3, 7, rfl, by decide, tg_in 220 rfl rfl⟩
set_option maxRecDepth 30000 in
theorem fl_X3_26 : FL RX3 26 3 1 := ⟨RX3, TX3, 7, rfl, by decide, tg_in 221 rfl rfl⟩
set_option maxRecDepth 30000 in
theorem fl_X3_9 : FL RX3 9 3 2 := ⟨RX3, TX3, 7, rfl, by decide, tg_in 222 rfl rfl⟩
set_option maxRecDepth 30000 in
theorem fl_X3_15 : FL RX3 15 3 3 := ⟨RX3, TX3, 7, rfl, by decide, tg_in 223 rfl rfl⟩
set_option maxRecDepth 30000 in
theorem fl_X3_39 : FL RX3 39 3 4 := ⟨RX3, TX3, 7, rfl, by decide, tg_in 224 rfl rfl⟩
set_option maxRecDepth 30000 in
theorem fp_X3_39 : FP RX3 39 3 4 .int := ⟨RX3, TX3, 7, rfl, by decide, tg_in 224 rfl rfl, rfl, rfl⟩
set_option maxRecDepth 30000 in
theorem fl_X3_40 : FL RX3 40 3 5 := ⟨RX3, TX3, 7, rfl, by decide, tg_in 225 rfl rfl⟩
set_option maxRecDepth 30000 in
theorem fp_X3_40 : FP RX3 40 3 5 .int := ⟨RX3, TX3, 7, rfl, by decide, tg_in 225 rfl rfl, rfl, rfl⟩
set_option maxRecDepth 30000 in
theorem fl_X3_18 : FL RX3 18 3 6 := ⟨RX3, TX3, 7, rfl, by decide, tg_in 226 rfl rfl⟩
set_option maxRecDepth 30000 in
theorem fp_X3_18 : FP RX3 18 3 6 .int := ⟨RX3, TX3, 7, rfl, by decide, tg_in 226 rfl rfl, rfl, rfl⟩
set_option maxRecDepth 30000 in
theorem fl_X6_201 : FL RX6 201 3 6 := ⟨RX3, TX3, 7, rfl, by decide, tg_in 227 rfl rfl⟩
set_option maxRecDepth 30000 in
theorem fp_X6_201 : FP RX6 201 3 6 .int := ⟨RX3, TX3, 7, rfl, by decide, tg_in 227 rfl rfl, rfl, rfl⟩
set_option maxRecDepth 30000 in
theorem fl_X0_9 : FL RX0 9 0 0 := ⟨RX0, TX0, 5, rfl, by decide, tg_in 249 rfl rfl⟩
set_option maxRecDepth 30000 in
theorem fl_X6_331 : FL RX6 331 0 0 := ⟨RX0, TX0, 5, rfl, by decide, tg_in 250 rfl rfl⟩
set_option maxRecDepth 30000 in
theorem fl_X0_33 : FL RX0 33 0 1 := ⟨RX0, TX0, 5, rfl, by decide, tg_in 251 rfl rfl⟩
set_option maxRecDepth 30000 in
theorem fp_X0_33 : FP RX0 33 0 1 .int := ⟨RX0, TX0, 5, rfl, by decide, tg_in 251 rfl rfl, rfl, rfl⟩
set_option maxRecDepth 30000 in
theorem fl_X6_322 : FL RX6 322 0 1 := ⟨RX0, TX0, 5, rfl, by decide, tg_in 252 rfl rfl⟩
set_option maxRecDepth 30000 in
theorem fp_X6_322 : FP RX6 322 0 1 .int := ⟨RX0, TX0, 5, rfl, by decide, tg_in 252 rfl rfl, rfl, rfl⟩
set_option maxRecDepth 30000 in
theorem fl_X0_29 : FL RX0 29 0 2 := ⟨RX0, TX0, 5, rfl, by decide, tg_in 253 rfl rfl⟩
set_option maxRecDepth 30000 in
theorem fp_X0_29 : FP RX0 29 0 2 .int := ⟨RX0, TX0, 5, rfl, by decide, tg_in 253 rfl rfl, rfl, rfl⟩
set_option maxRecDepth 30000 in
theorem fl_X6_323 : FL RX6 323 0 2 := ⟨RX0, TX0, 5, rfl, by decide, tg_in 254 rfl rfl⟩
set_option maxRecDepth 30000 in
theorem fp_X6_323 : FP RX6 323 0 2 .int := ⟨RX0, TX0, 5, rfl, by decide, tg_in 254 rfl rfl, rfl, rfl⟩
set_option maxRecDepth 30000 in
theorem fl_X0_40 : FL RX0 40 0 3 := ⟨RX0, TX0, 5, rfl, by decide, tg_in 255 rfl rfl⟩
set_option maxRecDepth 30000 in
theorem fp_X0_40 : FP RX0 40 0 3 .int := ⟨RX0, TX0, 5, rfl, by decide, tg_in 255 rfl rfl, rfl, rfl⟩
set_option maxRecDepth 30000 in
theorem fl_X6_326 : FL RX6 326 0 3 := ⟨RX0, TX0, 5, rfl, by decide, tg_in 256 rfl rfl⟩
set_option maxRecDepth 30000 in
theorem fp_X6_326 : FP RX6 326 0 3 .int := ⟨RX0, TX0, 5, rfl, by decide, tg_in 256 rfl rfl, rfl, rfl⟩
set_option maxRecDepth 30000 in
theorem fl_X0_47 : FL RX0 47 0 4 := ⟨RX0, TX0, 5, rfl, by decide, tg_in 257 rfl rfl⟩
set_option maxRecDepth 30000 in
theorem fp_X0_47 : FP RX0 47 0 4 .int := ⟨RX0, TX0, 5, rfl, by decide, tg_in 257 rfl rfl, rfl, rfl⟩
set_option maxRecDepth 30000 in
theorem fl_X6_319 : FL RX6 319 0 4 := ⟨RX0, TX0, 5, rfl, by decide, tg_in 258 rfl rfl⟩
set_option maxRecDepth 30000 in
theorem fp_X6_319 : FP RX6 319 0 4 .int := ⟨RX0, TX0, 5, rfl, by decide, tg_in 258 rfl rfl, rfl, rfl⟩
set_option maxRecDepth 30000 in
theorem fl_X4_9 : FL RX4 9 4 0 := ⟨RX4, TX4, 4, rfl, by decide, tg_in 277 rfl rfl⟩
set_option maxRecDepth 30000 in
theorem fl_X6_109 : FL RX6 109 4 0 := ⟨RX4, TX4, 4, rfl, by decide, tg_in 278 rfl rfl⟩
set_option maxRecDepth 30000 in
theorem fl_X4_15 : FL RX4 15 4 1 := ⟨RX4, TX4, 4, rfl, by decide, tg_in 279 rfl rfl⟩
set_option maxRecDepth 30000 in
theorem fp_X4_15 : FP RX4 15 4 1 .int := ⟨RX4, TX4, 4, rfl, by decide, tg_in 279 rfl rfl, rfl, rfl⟩
set_option maxRecDepth 30000 in
theorem fl_X6_350 : FL RX6 350 4 1 := ⟨RX4, TX4, 4, rfl, by decide, tg_in 280 rfl rfl⟩
set_option maxRecDepth 30000 in
theorem fp_X6_350 : FP RX6 350 4 1 .int := ⟨RX4, TX4, 4, rfl, by decide, tg_in 280 rfl rfl, rfl, rfl⟩
set_option maxRecDepth 30000 in
theorem fl_X4_22 : FL RX4 22 4 2 := ⟨RX4, TX4, 4, rfl, by decide, tg_in 281 rfl rfl⟩
set_option maxRecDepth 30000 in
theorem fp_X4_22 : FP RX4 22 4 2 .int := ⟨RX4, TX4, 4, rfl, by decide, tg_in 281 rfl rfl, rfl, rfl⟩
set_option maxRecDepth 30000 in
theorem fl_X3_36 : FL RX3 36 4 2 := ⟨RX4, TX4, 4, rfl, by decide, tg_in 282 rfl rfl⟩
set_option maxRecDepth 30000 in
theorem fp_X3_36 : FP RX3 36 4 2 .int := ⟨RX4, TX4, 4, rfl, by decide, tg_in 282 rfl rfl, rfl, rfl⟩
set_option maxRecDepth 30000 in
theorem fl_X6_353 : FL RX6 353 4 2 := ⟨RX4, TX4, 4, rfl, by decide, tg_in 283 rfl rfl⟩
set_option maxRecDepth 30000 in
theorem fp_X6_353 : FP RX6 353 4 2 .int := ⟨RX4, TX4, 4, rfl, by decide, tg_in 283 rfl rfl, rfl, rfl⟩
set_option maxRecDepth 30000 in
theorem fl_X4_19 : FL RX4 19 4 3 := ⟨RX4, TX4, 4, rfl, by decide, tg_in 284 rfl rfl⟩
set_option maxRecDepth 30000 in
theorem fp_X4_19 : FP RX4 19 4 3 .int := ⟨RX4, TX4, 4, rfl, by decide, tg_in 284 rfl rfl, rfl, rfl⟩
set_option maxRecDepth 30000 in
theorem fl_X6_138 : FL RX6 138 4 3 := ⟨RX4, TX4, 4, rfl, by decide, tg_in 285 rfl rfl⟩
set_option maxRecDepth 30000 in
theorem fp_X6_138 : FP RX6 138 4 3 .int := ⟨RX4, TX4, 4, rfl, by decide, tg_in 285 rfl rfl, rfl, rfl⟩
set_option maxRecDepth 30000 in
theorem fl_X6_11 : FL RX6 11 6 0 := ⟨RX6, TX6, 15, rfl, by decide, tg_in 296 rfl rfl⟩
set_option maxRecDepth 30000 in
theorem fl_X6_18 : FL RX6 18 6 1 := ⟨RX6, TX6, 15, rfl, by decide, tg_in 297 rfl rfl⟩
set_option maxRecDepth 30000 in
theorem fl_X6_22 : FL RX6 22 6 2 := ⟨RX6, TX6, 15, rfl, by decide, tg_in 298 rfl rfl⟩
set_option maxRecDepth 30000 in
theorem fl_X6_25 : FL RX6 25 6 3 := ⟨RX6, TX6, 15, rfl, by decide, tg_in 299 rfl rfl⟩
set_option maxRecDepth 30000 in
theorem fl_X6_31 : FL RX6 31 6 4 := ⟨RX6, TX6, 15, rfl, by decide, tg_in 300 rfl rfl⟩
set_option maxRecDepth 30000 in
theorem fl_X6_35 : FL RX6 35 6 5 := ⟨RX6, TX6, 15, rfl, by decide, tg_in 301 rfl rfl⟩
set_option maxRecDepth 30000 in
theorem fl_X6_43 : FL RX6 43 6 6 := ⟨RX6, TX6, 15, rfl, by decide, tg_in 302 rfl rfl⟩
set_option maxRecDepth 30000 in
theorem fl_X6_50 : FL RX6 50 6 7 := ⟨RX6, TX6, 15, rfl, by decide, tg_in 303 rfl rfl⟩
set_option maxRecDepth 30000 in
theorem fl_X6_57 : FL RX6 57 6 8 := ⟨RX6, TX6, 15, rfl, by decide, tg_in 304 rfl rfl⟩
set_option maxRecDepth 30000 in
theorem fl_X6_61 : FL RX6 61 6 9 := ⟨RX6, TX6, 15, rfl, by decide, tg_in 305 rfl rfl⟩
set_option maxRecDepth 30000 in
theorem fl_X6_65 : FL RX6 65 6 10 := ⟨RX6, TX6, 15, rfl, by decide, tg_in 306 rfl rfl⟩
set_option maxRecDepth 30000 in
theorem fl_X6_68 : FL RX6 68 6 11 := ⟨RX6, TX6, 15, rfl, by decide, tg_in 307 rfl rfl⟩
set_option maxRecDepth 30000 in
theorem fl_X6_71 : FL RX6 71 6 12 := ⟨RX6, TX6, 15, rfl, by decide, tg_in 308 rfl rfl⟩
set_option maxRecDepth 30000 in
theorem fl_X6_334 : FL RX6 334 6 13 := ⟨RX6, TX6, 15, rfl, by decide, tg_in 309 rfl rfl⟩
set_option maxRecDepth 30000 in
theorem fp_X6_334 : FP RX6 334 6 13 .boolean := ⟨RX6, TX6, 15, rfl, by decide, tg_in 309 rfl rfl, rfl, rfl⟩
set_option maxRecDepth 30000 in
theorem fl_X6_74 : FL RX6 74 6 14 := ⟨RX6, TX6, 15, rfl, by decide, tg_in 310 rfl rfl⟩
set_option maxRecDepth 30000 in
theorem fp_X6_74 : FP RX6 74 6 14 .int := ⟨RX6, TX6, 15, rfl, by decide, tg_in 310 rfl rfl, rfl, rfl⟩
set_option maxRecDepth 30000 in
theorem fl_X7_90 : FL RX7 90 7 0 := ⟨RX7, TX7, 43, rfl, by decide, tg_in 913 rfl rfl⟩
set_option maxRecDepth 30000 in
theorem fp_X7_90 : FP RX7 90 7 0 .int := ⟨RX7, TX7, 43, rfl, by decide, tg_in 913 rfl rfl, rfl, rfl⟩
set_option maxRecDepth 30000 in
theorem fl_X7_7 : FL RX7 7 7 1 := ⟨RX7, TX7, 43, rfl, by decide, tg_in 914 rfl rfl⟩
set_option maxRecDepth 30000 in
theorem fp_X7_7 : FP RX7 7 7 1 .int := ⟨RX7, TX7, 43, rfl, by decide, tg_in 914 rfl rfl, rfl, rfl⟩
set_option maxRecDepth 30000 in
theorem fl_X7_13 : FL RX7 13 7 2 := ⟨RX7, TX7, 43, rfl, by decide, tg_in 915 rfl rfl⟩
set_option maxRecDepth 30000 in
theorem fp_X7_13 : FP RX7 13 7 2 .int := ⟨RX7, TX7, 43, rfl, by decide, tg_in 915 rfl rfl, rfl, rfl⟩
set_option maxRecDepth 30000 in
theorem fl_X7_16 : FL RX7 16 7 3 := ⟨RX7, TX7, 43, rfl, by decide, tg_in 916 rfl rfl⟩
set_option maxRecDepth 30000 in
theorem fp_X7_16 : FP RX7 16 7 3 .int := ⟨RX7, TX7, 43, rfl, by decide, tg_in 916 rfl rfl, rfl, rfl⟩
set_option maxRecDepth 30000 in
theorem fl_X7_158 : FL RX7 158 7 4 := ⟨RX7, TX7, 43, rfl, by decide, tg_in 917 rfl rfl⟩
set_option maxRecDepth 30000 in
theorem fp_X7_158 : FP RX7 158 7 4 .int := ⟨RX7, TX7, 43, rfl, by decide, tg_in 917 rfl rfl, rfl, rfl⟩
set_option maxRecDepth 30000 in
theorem fl_X7_161 : FL RX7 161 7 5 := ⟨RX7, TX7, 43, rfl, by decide, tg_in 918 rfl rfl⟩
set_option maxRecDepth 30000 in
theorem fp_X7_161 : FP RX7 161 7 5 .int := ⟨RX7, TX7, 43, rfl, by decide, tg_in 918 rfl rfl, rfl, rfl⟩
set_option maxRecDepth 30000 in
theorem fl_X7_164 : FL RX7 164 7 6 := ⟨RX7, TX7, 43, rfl, by decide, tg_in 919 rfl rfl⟩
set_option maxRecDepth 30000 in
theorem fp_X7_164 : FP RX7 164 7 6 .int := ⟨RX7, TX7, 43, rfl, by decide, tg_in 919 rfl rfl, rfl, rfl⟩
set_option maxRecDepth 30000 in
theorem fl_X7_19 : FL RX7 19 7 7 := ⟨RX7, TX7, 43, rfl, by decide, tg_in 920 rfl rfl⟩
set_option maxRecDepth 30000 in
theorem fp_X7_19 : FP RX7 19 7 7 .int := ⟨RX7, TX7, 43, rfl, by decide, tg_in 920 rfl rfl, rfl, rfl⟩
set_option maxRecDepth 30000 in
theorem fl_X7_22 : FL RX7 22 7 8 := ⟨RX7, TX7, 43, rfl, by decide, tg_in 921 rfl rfl⟩
set_option maxRecDepth 30000 in
theorem fp_X7_22 : FP RX7 22 7 8 .int := ⟨RX7, TX7, 43, rfl, by decide, tg_in 921 rfl rfl, rfl, rfl⟩
set_option maxRecDepth 30000 in
theorem fl_X7_25 : FL RX7 25 7 9 := ⟨RX7, TX7, 43, rfl, by decide, tg_in 922 rfl rfl⟩
set_option maxRecDepth 30000 in
theorem fl_X7_29 : FL RX7 29 7 10 := ⟨RX7, TX7, 43, rfl, by decide, tg_in 923 rfl rfl⟩
set_option maxRecDepth 30000 in
theorem fl_X7_32 : FL RX7 32 7 11 := ⟨RX7, TX7, 43, rfl, by decide, tg_in 924 rfl rfl⟩
set_option maxRecDepth 30000 in
theorem fl_X7_35 : FL RX7 35 7 12 := ⟨RX7, TX7, 43, rfl, by decide, tg_in 925 rfl rfl⟩
set_option maxRecDepth 30000 in
theorem fl_X7_38 : FL RX7 38 7 13 := ⟨RX7, TX7, 43, rfl, by decide, tg_in 926 rfl rfl⟩
set_option maxRecDepth 30000 in
theorem fl_X7_41 : FL RX7 41 7 14 := ⟨RX7, TX7, 43, rfl, by decide, tg_in 927 rfl rfl⟩
set_option maxRecDepth 30000 in
theorem fl_X7_44 : FL RX7 44 7 15 := ⟨RX7, TX7, 43, rfl, by decide, tg_in 928 rfl rfl⟩
set_option maxRecDepth 30000 in
theorem fl_X7_47 : FL RX7 47 7 16 := ⟨RX7, TX7, 43, rfl, by decide, tg_in 929 rfl rfl⟩
set_option maxRecDepth 30000 in
theorem fl_X7_50 : FL RX7 50 7 17 := ⟨RX7, TX7, 43, rfl, by decide, tg_in 930 rfl rfl⟩
set_option maxRecDepth 30000 in
theorem fl_X7_53 : FL RX7 53 7 18 := ⟨RX7, TX7, 43, rfl, by decide, tg_in 931 rfl rfl⟩
set_option maxRecDepth 30000 in
theorem fl_X7_56 : FL RX7 56 7 19 := ⟨RX7, TX7, 43, rfl, by decide, tg_in 932 rfl rfl⟩
set_option maxRecDepth 30000 in
theorem fl_X7_60 : FL RX7 60 7 20 := ⟨RX7, TX7, 43, rfl, by decide, tg_in 933 rfl rfl⟩
set_option maxRecDepth 30000 in
theorem fl_X7_63 : FL RX7 63 7 21 := ⟨RX7, TX7, 43, rfl, by decide, tg_in 934 rfl rfl⟩
set_option maxRecDepth 30000 in
theorem fl_X7_66 : FL RX7 66 7 22 := ⟨RX7, TX7, 43, rfl, by decide, tg_in 935 rfl rfl⟩
set_option maxRecDepth 30000 in
theorem fl_X7_125 : FL RX7 125 7 23 := ⟨RX7, TX7, 43, rfl, by decide, tg_in 936 rfl rfl⟩
set_option maxRecDepth 30000 in
theorem fp_X7_125 : FP RX7 125 7 23 .int := ⟨RX7, TX7, 43, rfl, by decide, tg_in 936 rfl rfl, rfl, rfl⟩
set_option maxRecDepth 30000 in
theorem fl_X7_119 : FL RX7 119 7 24 := ⟨RX7, TX7, 43, rfl, by decide, tg_in 937 rfl rfl⟩
set_option maxRecDepth 30000 in
theorem fp_X7_119 : FP RX7 119 7 24 .int := ⟨RX7, TX7, 43, rfl, by decide, tg_in 937 rfl rfl, rfl, rfl⟩
set_option maxRecDepth 30000 in
theorem fl_X7_122 : FL RX7 122 7 25 := ⟨RX7, TX7, 43, rfl, by decide, tg_in 938 rfl rfl⟩
set_option maxRecDepth 30000 in
theorem fp_X7_122 : FP RX7 122 7 25 .int := ⟨RX7, TX7, 43, rfl, by decide, tg_in 938 rfl rfl, rfl, rfl⟩
set_option maxRecDepth 30000 in
theorem fl_X7_128 : FL RX7 128 7 26 := ⟨RX7, TX7, 43, rfl, by decide, tg_in 939 rfl rfl⟩
set_option maxRecDepth 30000 in
theorem fp_X7_128 : FP RX7 128 7 26 .int := ⟨RX7, TX7, 43, rfl, by decide, tg_in 939 rfl rfl, rfl, rfl⟩
set_option maxRecDepth 30000 in
theorem fl_X7_116 : FL RX7 116 7 27 := ⟨RX7, TX7, 43, rfl, by decide, tg_in 940 rfl rfl⟩
set_option maxRecDepth 30000 in
theorem fp_X7_116 : FP RX7 116 7 27 .int := ⟨RX7, TX7, 43, rfl, by decide, tg_in 940 rfl rfl, rfl, rfl⟩
set_option maxRecDepth 30000 in
theorem fl_X7_69 : FL RX7 69 7 28 := ⟨RX7, TX7, 43, rfl, by decide, tg_in 941 rfl rfl⟩
set_option maxRecDepth 30000 in
theorem fl_X7_72 : FL RX7 72 7 29 := ⟨RX7, TX7, 43, rfl, by decide, tg_in 942 rfl rfl⟩
set_option maxRecDepth 30000 in
theorem fl_X7_75 : FL RX7 75 7 30 := ⟨RX7, TX7, 43, rfl, by decide, tg_in 943 rfl rfl⟩
set_option maxRecDepth 30000 in
theorem fl_X7_78 : FL RX7 78 7 31 := ⟨RX7, TX7, 43, rfl, by decide, tg_in 944 rfl rfl⟩
set_option maxRecDepth 30000 in
theorem fl_X7_177 : FL RX7 177 7 32 := ⟨RX7, TX7, 43, rfl, by decide, tg_in 945 rfl rfl⟩
set_option maxRecDepth 30000 in
theorem fp_X7_177 : FP RX7 177 7 32 .int := ⟨RX7, TX7, 43, rfl, by decide, tg_in 945 rfl rfl, rfl, rfl⟩
set_option maxRecDepth 30000 in
theorem fl_X7_196 : FL RX7 196 7 33 := ⟨RX7, TX7, 43, rfl, by decide, tg_in 946 rfl rfl⟩
set_option maxRecDepth 30000 in
theorem fp_X7_196 : FP RX7 196 7 33 .int := ⟨RX7, TX7, 43, rfl, by decide, tg_in 946 rfl rfl, rfl, rfl⟩
set_option maxRecDepth 30000 in
theorem fl_X7_180 : FL RX7 180 7 34 := ⟨RX7, TX7, 43, rfl, by decide, tg_in 947 rfl rfl⟩
set_option maxRecDepth 30000 in
theorem fp_X7_180 : FP RX7 180 7 34 .int := ⟨RX7, TX7, 43, rfl, by decide, tg_in 947 rfl rfl, rfl, rfl⟩
set_option maxRecDepth 30000 in
theorem fl_X7_183 : FL RX7 183 7 35 := ⟨RX7, TX7, 43, rfl, by decide, tg_in 948 rfl rfl⟩
set_option maxRecDepth 30000 in
theorem fp_X7_183 : FP RX7 183 7 35 .int := ⟨RX7, TX7, 43, rfl, by decide, tg_in 948 rfl rfl, rfl, rfl⟩
set_option maxRecDepth 30000 in
theorem fl_X7_186 : FL RX7 186 7 36 := ⟨RX7, TX7, 43, rfl, by decide, tg_in 949 rfl rfl⟩
set_option maxRecDepth 30000 in
theorem fp_X7_186 : FP RX7 186 7 36 .int := ⟨RX7, TX7, 43, rfl, by decide, tg_in 949 rfl rfl, rfl, rfl⟩
set_option maxRecDepth 30000 in
theorem fl_X7_81 : FL RX7 81 7 37 := ⟨RX7, TX7, 43, rfl, by decide, tg_in 950 rfl rfl⟩
set_option maxRecDepth 30000 in
theorem fl_X7_84 : FL RX7 84 7 38 := ⟨RX7, TX7, 43, rfl, by decide, tg_in 951 rfl rfl⟩
set_option maxRecDepth 30000 in
theorem fl_X7_243 : FL RX7 243 7 39 := ⟨RX7, TX7, 43, rfl, by decide, tg_in 952 rfl rfl⟩
set_option maxRecDepth 30000 in
theorem fp_X7_243 : FP RX7 243 7 39 .int := ⟨RX7, TX7, 43, rfl, by decide, tg_in 952 rfl rfl, rfl, rfl⟩
set_option maxRecDepth 30000 in
theorem fl_X7_87 : FL RX7 87 7 40 := ⟨RX7, TX7, 43, rfl, by decide, tg_in 953 rfl rfl⟩
set_option maxRecDepth 30000 in
theorem fl_X7_279 : FL RX7 279 7 41 := ⟨RX7, TX7, 43, rfl, by decide, tg_in 954 rfl rfl⟩
set_option maxRecDepth 30000 in
theorem fp_X7_279 : FP RX7 279 7 41 .int := ⟨RX7, TX7, 43, rfl, by decide, tg_in 954 rfl rfl, rfl, rfl⟩
set_option maxRecDepth 30000 in
theorem fl_X7_294 : FL RX7 294 7 42 := ⟨RX7, TX7, 43, rfl, by decide, tg_in 955 rfl rfl⟩
set_option maxRecDepth 30000 in
theorem fp_X7_294 : FP RX7 294 7 42 .boolean := ⟨RX7, TX7, 43, rfl, by decide, tg_in 955 rfl rfl, rfl, rfl⟩
set_option maxRecDepth 30000 in
theorem ml_L_9 : Cond.methodLink RL 9 yX6_init ∈ tbG := tg_in 87 rfl rfl
set_option maxRecDepth 30000 in
theorem ml_X6_1 : Cond.methodLink RX6 1 objectInit ∈ tbG := tg_in 90 rfl rfl
set_option maxRecDepth 30000 in
theorem ml_X6_17 : Cond.methodLink RX6 17 yX5_init ∈ tbG := tg_in 97 rfl rfl
set_option maxRecDepth 30000 in
theorem ml_X5_3 : Cond.methodLink RX5 3 objectInit ∈ tbG := tg_in 100 rfl rfl
set_option maxRecDepth 30000 in
theorem ml_X1_3 : Cond.methodLink RX1 3 objectInit ∈ tbG := tg_in 107 rfl rfl
set_option maxRecDepth 30000 in
theorem ml_X2_3 : Cond.methodLink RX2 3 objectInit ∈ tbG := tg_in 183 rfl rfl
set_option maxRecDepth 30000 in
theorem ml_X6_40 : Cond.methodLink RX6 40 yX3_init ∈ tbG := tg_in 216 rfl rfl
set_option maxRecDepth 30000 in
theorem ml_X3_3 : Cond.methodLink RX3 3 objectInit ∈ tbG := tg_in 219 rfl rfl
set_option maxRecDepth 30000 in
theorem ml_X0_3 : Cond.methodLink RX0 3 objectInit ∈ tbG := tg_in 248 rfl rfl
set_option maxRecDepth 30000 in
theorem ml_X4_3 : Cond.methodLink RX4 3 objectInit ∈ tbG := tg_in 276 rfl rfl
set_option maxRecDepth 30000 in
theorem ml_L_13 : Cond.methodLink RL 13 yX6_row ∈ tbG := tg_in 342 rfl rfl
set_option maxRecDepth 30000 in
theorem ml_X6_79 : Cond.methodLink RX6 79 yX6_isShelf ∈ tbG := tg_in 346 rfl rfl
set_option maxRecDepth 30000 in
theorem ml_X6_83 : Cond.methodLink RX6 83 yX6_refused ∈ tbG := tg_in 349 rfl rfl
set_option maxRecDepth 30000 in
theorem ml_X6_87 : Cond.methodLink RX6 87 yX6_isWithin ∈ tbG := tg_in 353 rfl rfl
set_option maxRecDepth 30000 in
theorem ml_X6_91 : Cond.methodLink RX6 91 yX4_takeRow ∈ tbG := tg_in 356 rfl rfl
set_option maxRecDepth 30000 in
theorem ml_L_20 : Cond.methodLink RL 20 yX6_set ∈ tbG := tg_in 360 rfl rfl
set_option maxRecDepth 30000 in
theorem ml_X6_95 : Cond.methodLink RX6 95 yX6_whyNoRow ∈ tbG := tg_in 364 rfl rfl
set_option maxRecDepth 30000 in
theorem ml_X6_134 : Cond.methodLink RX6 134 yX4_holdsRow ∈ tbG := tg_in 368 rfl rfl
set_option maxRecDepth 30000 in
theorem ml_X6_98 : Cond.methodLink RX6 98 yX4_hasElement ∈ tbG := tg_in 372 rfl rfl
set_option maxRecDepth 30000 in
theorem ml_X6_101 : Cond.methodLink RX6 101 yX4_put ∈ tbG := tg_in 376 rfl rfl
set_option maxRecDepth 30000 in
theorem ml_X4_29 : Cond.methodLink RX4 29 yX4_hasElement ∈ tbG := tg_in 380 rfl rfl
set_option maxRecDepth 30000 in
theorem ml_X4_33 : Cond.methodLink RX4 33 yX4_lowestBits ∈ tbG := tg_in 381 rfl rfl
set_option maxRecDepth 30000 in
theorem ml_L_25 : Cond.methodLink RL 25 yX6_copy ∈ tbG := tg_in 385 rfl rfl
set_option maxRecDepth 30000 in
theorem ml_X6_105 : Cond.methodLink RX6 105 yX6_whyNoCopy ∈ tbG := tg_in 389 rfl rfl
set_option maxRecDepth 30000 in
theorem ml_X6_113 : Cond.methodLink RX6 113 arraycopyName ∈ tbG := tg_in 393 rfl rfl
set_option maxRecDepth 30000 in
theorem ml_L_30 : Cond.methodLink RL 30 yX6_element ∈ tbG := tg_in 396 rfl rfl
set_option maxRecDepth 30000 in
theorem ml_X6_119 : Cond.methodLink RX6 119 yX4_elementAt ∈ tbG := tg_in 400 rfl rfl
set_option maxRecDepth 30000 in
theorem ml_L_35 : Cond.methodLink RL 35 yX6_show ∈ tbG := tg_in 404 rfl rfl
set_option maxRecDepth 30000 in
theorem ml_X6_123 : Cond.methodLink RX6 123 yX5_hasBiscuit ∈ tbG := tg_in 408 rfl rfl
set_option maxRecDepth 30000 in
theorem ml_X6_126 : Cond.methodLink RX6 126 yX4_takeBiscuit ∈ tbG := tg_in 412 rfl rfl
set_option maxRecDepth 30000 in
theorem ml_L_40 : Cond.methodLink RL 40 yX6_holds ∈ tbG := tg_in 416 rfl rfl
set_option maxRecDepth 30000 in
theorem ml_X6_130 : Cond.methodLink RX6 130 yX4_tellsWhatItHolds ∈ tbG := tg_in 420 rfl rfl
set_option maxRecDepth 30000 in
theorem ml_X4_25 : Cond.methodLink RX4 25 yX4_holdsRow ∈ tbG := tg_in 424 rfl rfl
set_option maxRecDepth 30000 in
theorem ml_L_45 : Cond.methodLink RL 45 yX6_says ∈ tbG := tg_in 425 rfl rfl
set_option maxRecDepth 30000 in
theorem ml_X6_145 : Cond.methodLink RX6 145 yX1_isOf ∈ tbG := tg_in 429 rfl rfl
set_option maxRecDepth 30000 in
theorem ml_X6_148 : Cond.methodLink RX6 148 yX6_saysAs ∈ tbG := tg_in 435 rfl rfl
set_option maxRecDepth 30000 in
theorem ml_X6_204 : Cond.methodLink RX6 204 yX1_soakOf ∈ tbG := tg_in 439 rfl rfl
set_option maxRecDepth 30000 in
theorem ml_X6_356 : Cond.methodLink RX6 356 yX1_holdsSoWet ∈ tbG := tg_in 443 rfl rfl
set_option maxRecDepth 30000 in
theorem ml_L_49 : Cond.methodLink RL 49 yX6_biscuit ∈ tbG := tg_in 447 rfl rfl
set_option maxRecDepth 30000 in
theorem ml_X6_152 : Cond.methodLink RX6 152 yX5_hasRoom ∈ tbG := tg_in 451 rfl rfl
set_option maxRecDepth 30000 in
theorem ml_X6_155 : Cond.methodLink RX6 155 yX5_addBiscuit ∈ tbG := tg_in 455 rfl rfl
set_option maxRecDepth 30000 in
theorem ml_X5_64 : Cond.methodLink RX5 64 yX5_hasRoom ∈ tbG := tg_in 459 rfl rfl
set_option maxRecDepth 30000 in
theorem ml_X5_68 : Cond.methodLink RX5 68 yX1_becomeNew ∈ tbG := tg_in 460 rfl rfl
set_option maxRecDepth 30000 in
theorem ml_X1_31 : Cond.methodLink RX1 31 yX1_dry ∈ tbG := tg_in 464 rfl rfl
set_option maxRecDepth 30000 in
theorem ml_L_53 : Cond.methodLink RL 53 yX6_biscuitOf ∈ tbG := tg_in 468 rfl rfl
set_option maxRecDepth 30000 in
theorem ml_X6_168 : Cond.methodLink RX6 168 yX1_wetOfAll ∈ tbG := tg_in 472 rfl rfl
set_option maxRecDepth 30000 in
theorem ml_X6_171 : Cond.methodLink RX6 171 yX1_hasCell ∈ tbG := tg_in 476 rfl rfl
set_option maxRecDepth 30000 in
theorem ml_L_57 : Cond.methodLink RL 57 yX6_wet ∈ tbG := tg_in 480 rfl rfl
set_option maxRecDepth 30000 in
theorem ml_X6_177 : Cond.methodLink RX6 177 yX5_hasCellOf ∈ tbG := tg_in 484 rfl rfl
set_option maxRecDepth 30000 in
theorem ml_X5_57 : Cond.methodLink RX5 57 yX5_hasBiscuit ∈ tbG := tg_in 488 rfl rfl
set_option maxRecDepth 30000 in
theorem ml_X5_61 : Cond.methodLink RX5 61 yX1_hasCell ∈ tbG := tg_in 489 rfl rfl
set_option maxRecDepth 30000 in
theorem ml_L_61 : Cond.methodLink RL 61 yX6_ask ∈ tbG := tg_in 490 rfl rfl
set_option maxRecDepth 30000 in
theorem ml_L_65 : Cond.methodLink RL 65 yX6_worthOf ∈ tbG := tg_in 494 rfl rfl
set_option maxRecDepth 30000 in
theorem ml_L_69 : Cond.methodLink RL 69 yX6_table ∈ tbG := tg_in 498 rfl rfl
set_option maxRecDepth 30000 in
theorem ml_X6_193 : Cond.methodLink RX6 193 yX5_takeOver ∈ tbG := tg_in 502 rfl rfl
set_option maxRecDepth 30000 in
theorem ml_X5_35 : Cond.methodLink RX5 35 yX1_become ∈ tbG := tg_in 506 rfl rfl
set_option maxRecDepth 30000 in
theorem ml_X1_25 : Cond.methodLink RX1 25 arraycopyName ∈ tbG := tg_in 510 rfl rfl
set_option maxRecDepth 30000 in
theorem ml_X5_39 : Cond.methodLink RX5 39 arraycopyName ∈ tbG := tg_in 511 rfl rfl
set_option maxRecDepth 30000 in
theorem ml_X6_197 : Cond.methodLink RX6 197 yX3_read ∈ tbG := tg_in 512 rfl rfl
set_option maxRecDepth 30000 in
theorem ml_X3_30 : Cond.methodLink RX3 30 yX4_elementAt ∈ tbG := tg_in 516 rfl rfl
set_option maxRecDepth 30000 in
theorem ml_X3_43 : Cond.methodLink RX3 43 yX3_readWord ∈ tbG := tg_in 517 rfl rfl
set_option maxRecDepth 30000 in
theorem ml_X3_69 : Cond.methodLink RX3 69 yX3_lettersOf ∈ tbG := tg_in 521 rfl rfl
set_option maxRecDepth 30000 in
theorem ml_X3_73 : Cond.methodLink RX3 73 yJ0_length_8abf5 ∈ tbG := tg_in 531 rfl rfl
set_option maxRecDepth 30000 in
theorem ml_J0_335 : Cond.methodLink RJ0 335 yJ0_coder_7d493 ∈ tbG := tg_in 535 rfl rfl
set_option maxRecDepth 30000 in
theorem ml_X3_65 : Cond.methodLink RX3 65 yX3_letter ∈ tbG := tg_in 541 rfl rfl
set_option maxRecDepth 30000 in
theorem ml_X3_77 : Cond.methodLink RX3 77 yJ0_charAt_5068e ∈ tbG := tg_in 545 rfl rfl
set_option maxRecDepth 30000 in
theorem ml_J0_492 : Cond.methodLink RJ0 492 yJ0_isLatin1_aae02 ∈ tbG := tg_in 549 rfl rfl
set_option maxRecDepth 30000 in
theorem ml_J0_495 : Cond.methodLink RJ0 495 yJ1_charAt_3b067 ∈ tbG := tg_in 553 rfl rfl
set_option maxRecDepth 30000 in
theorem ml_J1_9 : Cond.methodLink RJ1 9 yJ0_checkIndex_df160 ∈ tbG := tg_in 556 rfl rfl
set_option maxRecDepth 30000 in
theorem ml_J0_1059 : Cond.methodLink RJ0 1059 yJ3_checkIndex_8e157 ∈ tbG := tg_in 561 rfl rfl
set_option maxRecDepth 30000 in
theorem ml_J0_498 : Cond.methodLink RJ0 498 yJ2_charAt_3b067 ∈ tbG := tg_in 564 rfl rfl
set_option maxRecDepth 30000 in
theorem ml_J2_67 : Cond.methodLink RJ2 67 yJ2_checkIndex_2214a ∈ tbG := tg_in 567 rfl rfl
set_option maxRecDepth 30000 in
theorem ml_J2_48 : Cond.methodLink RJ2 48 yJ2_length_9d52b ∈ tbG := tg_in 570 rfl rfl
set_option maxRecDepth 30000 in
theorem ml_J2_414 : Cond.methodLink RJ2 414 yJ0_checkIndex_df160 ∈ tbG := tg_in 573 rfl rfl
set_option maxRecDepth 30000 in
theorem ml_J2_71 : Cond.methodLink RJ2 71 yJ2_getChar_3b067 ∈ tbG := tg_in 574 rfl rfl
set_option maxRecDepth 30000 in
theorem ml_X3_81 : Cond.methodLink RX3 81 yX3_standsWhole ∈ tbG := tg_in 583 rfl rfl
set_option maxRecDepth 30000 in
theorem ml_X3_90 : Cond.methodLink RX3 90 yX5_hasRoom ∈ tbG := tg_in 587 rfl rfl
set_option maxRecDepth 30000 in
theorem ml_X3_85 : Cond.methodLink RX3 85 yJ9_max_7cf53 ∈ tbG := tg_in 588 rfl rfl
set_option maxRecDepth 30000 in
theorem ml_X3_47 : Cond.methodLink RX3 47 yX3_readNumbers ∈ tbG := tg_in 591 rfl rfl
set_option maxRecDepth 30000 in
theorem ml_X3_94 : Cond.methodLink RX3 94 yX3_numbersOf ∈ tbG := tg_in 595 rfl rfl
set_option maxRecDepth 30000 in
theorem ml_X3_61 : Cond.methodLink RX3 61 yX3_takes ∈ tbG := tg_in 598 rfl rfl
set_option maxRecDepth 30000 in
theorem ml_X3_97 : Cond.methodLink RX3 97 yX3_readNumber ∈ tbG := tg_in 602 rfl rfl
set_option maxRecDepth 30000 in
theorem ml_X3_105 : Cond.methodLink RX3 105 yX3_mayBe ∈ tbG := tg_in 607 rfl rfl
set_option maxRecDepth 30000 in
theorem ml_X3_122 : Cond.methodLink RX3 122 yX5_hasBiscuit ∈ tbG := tg_in 611 rfl rfl
set_option maxRecDepth 30000 in
theorem ml_X3_125 : Cond.methodLink RX3 125 yX5_hasCellOf ∈ tbG := tg_in 612 rfl rfl
set_option maxRecDepth 30000 in
theorem ml_X3_51 : Cond.methodLink RX3 51 yX5_dipInTruth ∈ tbG := tg_in 613 rfl rfl
set_option maxRecDepth 30000 in
theorem ml_X5_92 : Cond.methodLink RX5 92 yX2_begin ∈ tbG := tg_in 617 rfl rfl
set_option maxRecDepth 30000 in
theorem ml_X2_18 : Cond.methodLink RX2 18 yX1_become ∈ tbG := tg_in 621 rfl rfl
set_option maxRecDepth 30000 in
theorem ml_X5_98 : Cond.methodLink RX5 98 yX2_stay ∈ tbG := tg_in 622 rfl rfl
set_option maxRecDepth 30000 in
theorem ml_X2_57 : Cond.methodLink RX2 57 yX2_enter ∈ tbG := tg_in 626 rfl rfl
set_option maxRecDepth 30000 in
theorem ml_X2_51 : Cond.methodLink RX2 51 yJ9_min_7cf53 ∈ tbG := tg_in 630 rfl rfl
set_option maxRecDepth 30000 in
theorem ml_X2_61 : Cond.methodLink RX2 61 yX2_second ∈ tbG := tg_in 633 rfl rfl
set_option maxRecDepth 30000 in
theorem ml_X2_69 : Cond.methodLink RX2 69 yX1_soakOf ∈ tbG := tg_in 637 rfl rfl
set_option maxRecDepth 30000 in
theorem ml_X2_72 : Cond.methodLink RX2 72 yX1_creepInto ∈ tbG := tg_in 638 rfl rfl
set_option maxRecDepth 30000 in
theorem ml_X2_76 : Cond.methodLink RX2 76 yX1_breakingCell ∈ tbG := tg_in 642 rfl rfl
set_option maxRecDepth 30000 in
theorem ml_X1_41 : Cond.methodLink RX1 41 yX1_holdsSoWet ∈ tbG := tg_in 646 rfl rfl
set_option maxRecDepth 30000 in
theorem ml_X2_80 : Cond.methodLink RX2 80 yX1_loseBelow ∈ tbG := tg_in 647 rfl rfl
set_option maxRecDepth 30000 in
theorem ml_X1_37 : Cond.methodLink RX1 37 yX1_hasCell ∈ tbG := tg_in 651 rfl rfl
set_option maxRecDepth 30000 in
theorem ml_X2_83 : Cond.methodLink RX2 83 yJ9_max_7cf53 ∈ tbG := tg_in 652 rfl rfl
set_option maxRecDepth 30000 in
theorem ml_X5_82 : Cond.methodLink RX5 82 yJ9_max_7cf53 ∈ tbG := tg_in 653 rfl rfl
set_option maxRecDepth 30000 in
theorem ml_X5_112 : Cond.methodLink RX5 112 yX5_pass ∈ tbG := tg_in 654 rfl rfl
set_option maxRecDepth 30000 in
theorem ml_X5_88 : Cond.methodLink RX5 88 yX5_heatAfter ∈ tbG := tg_in 658 rfl rfl
set_option maxRecDepth 30000 in
theorem ml_X3_57 : Cond.methodLink RX3 57 yX3_tell ∈ tbG := tg_in 662 rfl rfl
set_option maxRecDepth 30000 in
theorem ml_X3_137 : Cond.methodLink RX3 137 yX5_addBiscuit ∈ tbG := tg_in 666 rfl rfl
set_option maxRecDepth 30000 in
theorem ml_L_73 : Cond.methodLink RL 73 yX6_fault ∈ tbG := tg_in 668 rfl rfl
set_option maxRecDepth 30000 in
theorem ml_L_78 : Cond.methodLink RL 78 yX6_soak ∈ tbG := tg_in 672 rfl rfl
set_option maxRecDepth 30000 in
theorem ml_L_82 : Cond.methodLink RL 82 yX6_cellOf ∈ tbG := tg_in 676 rfl rfl
set_option maxRecDepth 30000 in
theorem ml_X6_208 : Cond.methodLink RX6 208 yX1_holdsAt ∈ tbG := tg_in 680 rfl rfl
set_option maxRecDepth 30000 in
theorem ml_X6_211 : Cond.methodLink RX6 211 yX1_hangsOn ∈ tbG := tg_in 684 rfl rfl
set_option maxRecDepth 30000 in
theorem ml_L_86 : Cond.methodLink RL 86 yX6_breaks ∈ tbG := tg_in 688 rfl rfl
set_option maxRecDepth 30000 in
theorem ml_X6_214 : Cond.methodLink RX6 214 yX1_breakingCell ∈ tbG := tg_in 692 rfl rfl
set_option maxRecDepth 30000 in
theorem ml_L_90 : Cond.methodLink RL 90 yX6_left ∈ tbG := tg_in 693 rfl rfl
set_option maxRecDepth 30000 in
theorem ml_X6_217 : Cond.methodLink RX6 217 yX6_whyNoDunk ∈ tbG := tg_in 697 rfl rfl
set_option maxRecDepth 30000 in
theorem ml_X6_227 : Cond.methodLink RX6 227 yX6_mayBeDunk ∈ tbG := tg_in 701 rfl rfl
set_option maxRecDepth 30000 in
theorem ml_X6_221 : Cond.methodLink RX6 221 yX6_dunkAndCarry ∈ tbG := tg_in 704 rfl rfl
set_option maxRecDepth 30000 in
theorem ml_X6_233 : Cond.methodLink RX6 233 yX2_begin ∈ tbG := tg_in 708 rfl rfl
set_option maxRecDepth 30000 in
theorem ml_X6_247 : Cond.methodLink RX6 247 yX2_stay ∈ tbG := tg_in 709 rfl rfl
set_option maxRecDepth 30000 in
theorem ml_L_95 : Cond.methodLink RL 95 yX6_wetness ∈ tbG := tg_in 710 rfl rfl
set_option maxRecDepth 30000 in
theorem ml_L_99 : Cond.methodLink RL 99 yX6_when ∈ tbG := tg_in 714 rfl rfl
set_option maxRecDepth 30000 in
theorem ml_L_103 : Cond.methodLink RL 103 yX6_longest ∈ tbG := tg_in 718 rfl rfl
set_option maxRecDepth 30000 in
theorem ml_X6_237 : Cond.methodLink RX6 237 yX2_enter ∈ tbG := tg_in 722 rfl rfl
set_option maxRecDepth 30000 in
theorem ml_X6_240 : Cond.methodLink RX6 240 yX2_second ∈ tbG := tg_in 723 rfl rfl
set_option maxRecDepth 30000 in
theorem ml_X6_243 : Cond.methodLink RX6 243 yX2_goOnFrom ∈ tbG := tg_in 724 rfl rfl
set_option maxRecDepth 30000 in
theorem ml_X6_250 : Cond.methodLink RX6 250 yX2_isWhole ∈ tbG := tg_in 728 rfl rfl
set_option maxRecDepth 30000 in
theorem ml_L_107 : Cond.methodLink RL 107 yX6_far ∈ tbG := tg_in 732 rfl rfl
set_option maxRecDepth 30000 in
theorem ml_L_111 : Cond.methodLink RL 111 yX6_worth ∈ tbG := tg_in 736 rfl rfl
set_option maxRecDepth 30000 in
theorem ml_X6_253 : Cond.methodLink RX6 253 yX5_worthOfCells ∈ tbG := tg_in 740 rfl rfl
set_option maxRecDepth 30000 in
theorem ml_L_115 : Cond.methodLink RL 115 yX6_best ∈ tbG := tg_in 745 rfl rfl
set_option maxRecDepth 30000 in
theorem ml_X6_257 : Cond.methodLink RX6 257 yX1_become ∈ tbG := tg_in 749 rfl rfl
set_option maxRecDepth 30000 in
theorem ml_X6_261 : Cond.methodLink RX6 261 yX1_turnAbout ∈ tbG := tg_in 750 rfl rfl
set_option maxRecDepth 30000 in
theorem ml_X6_264 : Cond.methodLink RX6 264 yX6_bestDip ∈ tbG := tg_in 754 rfl rfl
set_option maxRecDepth 30000 in
theorem ml_L_119 : Cond.methodLink RL 119 yX6_twice ∈ tbG := tg_in 758 rfl rfl
set_option maxRecDepth 30000 in
theorem ml_L_123 : Cond.methodLink RL 123 yX6_goes ∈ tbG := tg_in 762 rfl rfl
set_option maxRecDepth 30000 in
theorem ml_L_127 : Cond.methodLink RL 127 yX6_plate ∈ tbG := tg_in 766 rfl rfl
set_option maxRecDepth 30000 in
theorem ml_X6_273 : Cond.methodLink RX6 273 yX6_fillPlateWorths ∈ tbG := tg_in 770 rfl rfl
set_option maxRecDepth 30000 in
theorem ml_X6_359 : Cond.methodLink RX6 359 yX5_heatAfter ∈ tbG := tg_in 774 rfl rfl
set_option maxRecDepth 30000 in
theorem ml_X6_277 : Cond.methodLink RX6 277 yX6_findBestOrder ∈ tbG := tg_in 775 rfl rfl
set_option maxRecDepth 30000 in
theorem ml_X6_362 : Cond.methodLink RX6 362 yX6_toNextOrder ∈ tbG := tg_in 779 rfl rfl
set_option maxRecDepth 30000 in
theorem ml_X6_365 : Cond.methodLink RX6 365 yX6_swapInOrder ∈ tbG := tg_in 783 rfl rfl
set_option maxRecDepth 30000 in
theorem ml_L_131 : Cond.methodLink RL 131 yX6_rule ∈ tbG := tg_in 787 rfl rfl
set_option maxRecDepth 30000 in
theorem ml_X6_280 : Cond.methodLink RX6 280 yJ9_min_7cf53 ∈ tbG := tg_in 791 rfl rfl
set_option maxRecDepth 30000 in
theorem ml_X6_285 : Cond.methodLink RX6 285 yJ9_max_7cf53 ∈ tbG := tg_in 792 rfl rfl
set_option maxRecDepth 30000 in
theorem ml_L_135 : Cond.methodLink RL 135 yX6_back ∈ tbG := tg_in 793 rfl rfl
set_option maxRecDepth 30000 in
theorem ml_X6_288 : Cond.methodLink RX6 288 yX6_whyNotBack ∈ tbG := tg_in 797 rfl rfl
set_option maxRecDepth 30000 in
theorem ml_X6_291 : Cond.methodLink RX6 291 yX2_beginDry ∈ tbG := tg_in 801 rfl rfl
set_option maxRecDepth 30000 in
theorem ml_X2_41 : Cond.methodLink RX2 41 yX2_begin ∈ tbG := tg_in 805 rfl rfl
set_option maxRecDepth 30000 in
theorem ml_X2_45 : Cond.methodLink RX2 45 yX1_dry ∈ tbG := tg_in 806 rfl rfl
set_option maxRecDepth 30000 in
theorem ml_X6_294 : Cond.methodLink RX6 294 yX6_isAsWetAs ∈ tbG := tg_in 807 rfl rfl
set_option maxRecDepth 30000 in
theorem ml_L_140 : Cond.methodLink RL 140 yX6_heats ∈ tbG := tg_in 810 rfl rfl
set_option maxRecDepth 30000 in
theorem ml_L_144 : Cond.methodLink RL 144 yX6_fetch ∈ tbG := tg_in 814 rfl rfl
set_option maxRecDepth 30000 in
theorem ml_L_148 : Cond.methodLink RL 148 yX6_dip ∈ tbG := tg_in 818 rfl rfl
set_option maxRecDepth 30000 in
theorem ml_X6_298 : Cond.methodLink RX6 298 yX6_whyNotInTruth ∈ tbG := tg_in 822 rfl rfl
set_option maxRecDepth 30000 in
theorem ml_X6_301 : Cond.methodLink RX6 301 yX5_dipInTruth ∈ tbG := tg_in 826 rfl rfl
set_option maxRecDepth 30000 in
theorem ml_L_152 : Cond.methodLink RL 152 yX6_carry ∈ tbG := tg_in 827 rfl rfl
set_option maxRecDepth 30000 in
theorem ml_X6_305 : Cond.methodLink RX6 305 yX5_carryInTruth ∈ tbG := tg_in 831 rfl rfl
set_option maxRecDepth 30000 in
theorem ml_L_156 : Cond.methodLink RL 156 yX6_turn ∈ tbG := tg_in 835 rfl rfl
set_option maxRecDepth 30000 in
theorem ml_L_160 : Cond.methodLink RL 160 yX6_eats ∈ tbG := tg_in 839 rfl rfl
set_option maxRecDepth 30000 in
theorem ml_X6_309 : Cond.methodLink RX6 309 yX5_eat ∈ tbG := tg_in 843 rfl rfl
set_option maxRecDepth 30000 in
theorem ml_X5_116 : Cond.methodLink RX5 116 yX5_worthOfCells ∈ tbG := tg_in 847 rfl rfl
set_option maxRecDepth 30000 in
theorem ml_L_164 : Cond.methodLink RL 164 yX6_teas ∈ tbG := tg_in 848 rfl rfl
set_option maxRecDepth 30000 in
theorem ml_X6_312 : Cond.methodLink RX6 312 yX5_takeTea ∈ tbG := tg_in 852 rfl rfl
set_option maxRecDepth 30000 in
theorem ml_X5_120 : Cond.methodLink RX5 120 yX5_draw ∈ tbG := tg_in 856 rfl rfl
set_option maxRecDepth 30000 in
theorem ml_X5_123 : Cond.methodLink RX5 123 yX5_dipInTruth ∈ tbG := tg_in 861 rfl rfl
set_option maxRecDepth 30000 in
theorem ml_X5_127 : Cond.methodLink RX5 127 yX5_carryInTruth ∈ tbG := tg_in 862 rfl rfl
set_option maxRecDepth 30000 in
theorem ml_X5_131 : Cond.methodLink RX5 131 yX5_eat ∈ tbG := tg_in 863 rfl rfl
set_option maxRecDepth 30000 in
theorem ml_L_168 : Cond.methodLink RL 168 yX6_seed ∈ tbG := tg_in 864 rfl rfl
set_option maxRecDepth 30000 in
theorem ml_L_172 : Cond.methodLink RL 172 yX6_act ∈ tbG := tg_in 868 rfl rfl
set_option maxRecDepth 30000 in
theorem ml_X0_15 : Cond.methodLink RX0 15 yX0_ownerOf ∈ tbG := tg_in 875 rfl rfl
set_option maxRecDepth 30000 in
theorem ml_X0_22 : Cond.methodLink RX0 22 yX0_begins ∈ tbG := tg_in 882 rfl rfl
set_option maxRecDepth 30000 in
theorem ml_X0_36 : Cond.methodLink RX0 36 yX0_run ∈ tbG := tg_in 886 rfl rfl
set_option maxRecDepth 30000 in
theorem ml_L_176 : Cond.methodLink RL 176 yX6_trace ∈ tbG := tg_in 887 rfl rfl
set_option maxRecDepth 30000 in
theorem ml_L_180 : Cond.methodLink RL 180 yX6_image ∈ tbG := tg_in 891 rfl rfl
set_option maxRecDepth 30000 in
theorem ml_L_184 : Cond.methodLink RL 184 yX6_restore ∈ tbG := tg_in 895 rfl rfl
set_option maxRecDepth 30000 in
theorem ml_L_188 : Cond.methodLink RL 188 yX6_status ∈ tbG := tg_in 899 rfl rfl
set_option maxRecDepth 30000 in
theorem ml_X6_338 : Cond.methodLink RX6 338 yX5_cellsOfAll ∈ tbG := tg_in 903 rfl rfl
set_option maxRecDepth 30000 in
theorem ml_L_12 : Cond.methodLink RL 12 yX7_init ∈ tbG := tg_in 909 rfl rfl
set_option maxRecDepth 30000 in
theorem ml_X7_1 : Cond.methodLink RX7 1 objectInit ∈ tbG := tg_in 912 rfl rfl
set_option maxRecDepth 30000 in
theorem ml_L_17 : Cond.methodLink RL 17 yX7_row ∈ tbG := tg_in 1043 rfl rfl
set_option maxRecDepth 30000 in
theorem ml_X7_97 : Cond.methodLink RX7 97 yX7_isShelf ∈ tbG := tg_in 1047 rfl rfl
set_option maxRecDepth 30000 in
theorem ml_X7_100 : Cond.methodLink RX7 100 yX7_no ∈ tbG := tg_in 1051 rfl rfl
set_option maxRecDepth 30000 in
theorem ml_L_24 : Cond.methodLink RL 24 yX7_set ∈ tbG := tg_in 1055 rfl rfl
set_option maxRecDepth 30000 in
theorem ml_L_29 : Cond.methodLink RL 29 yX7_copy ∈ tbG := tg_in 1059 rfl rfl
set_option maxRecDepth 30000 in
theorem ml_L_34 : Cond.methodLink RL 34 yX7_element ∈ tbG := tg_in 1063 rfl rfl
set_option maxRecDepth 30000 in
theorem ml_L_39 : Cond.methodLink RL 39 yX7_show ∈ tbG := tg_in 1067 rfl rfl
set_option maxRecDepth 30000 in
theorem ml_X7_93 : Cond.methodLink RX7 93 yX7_isBiscuit ∈ tbG := tg_in 1071 rfl rfl
set_option maxRecDepth 30000 in
theorem ml_L_44 : Cond.methodLink RL 44 yX7_holds ∈ tbG := tg_in 1075 rfl rfl
set_option maxRecDepth 30000 in
theorem ml_L_48 : Cond.methodLink RL 48 yX7_says ∈ tbG := tg_in 1079 rfl rfl
set_option maxRecDepth 30000 in
theorem ml_X7_104 : Cond.methodLink RX7 104 yX7_soakOf ∈ tbG := tg_in 1083 rfl rfl
set_option maxRecDepth 30000 in
theorem ml_L_52 : Cond.methodLink RL 52 yX7_biscuit ∈ tbG := tg_in 1087 rfl rfl
set_option maxRecDepth 30000 in
theorem ml_X7_108 : Cond.methodLink RX7 108 yX7_adds ∈ tbG := tg_in 1091 rfl rfl
set_option maxRecDepth 30000 in
theorem ml_L_56 : Cond.methodLink RL 56 yX7_biscuitOf ∈ tbG := tg_in 1095 rfl rfl
set_option maxRecDepth 30000 in
theorem ml_X7_112 : Cond.methodLink RX7 112 yX7_isCell ∈ tbG := tg_in 1099 rfl rfl
set_option maxRecDepth 30000 in
theorem ml_L_60 : Cond.methodLink RL 60 yX7_wet ∈ tbG := tg_in 1103 rfl rfl
set_option maxRecDepth 30000 in
theorem ml_L_64 : Cond.methodLink RL 64 yX7_ask ∈ tbG := tg_in 1107 rfl rfl
set_option maxRecDepth 30000 in
theorem ml_L_68 : Cond.methodLink RL 68 yX7_worthOf ∈ tbG := tg_in 1111 rfl rfl
set_option maxRecDepth 30000 in
theorem ml_L_72 : Cond.methodLink RL 72 yX7_table ∈ tbG := tg_in 1115 rfl rfl
set_option maxRecDepth 30000 in
theorem ml_X7_167 : Cond.methodLink RX7 167 yX7_wanted ∈ tbG := tg_in 1119 rfl rfl
set_option maxRecDepth 30000 in
theorem ml_X7_170 : Cond.methodLink RX7 170 yX7_all ∈ tbG := tg_in 1123 rfl rfl
set_option maxRecDepth 30000 in
theorem ml_X7_154 : Cond.methodLink RX7 154 yX7_carries ∈ tbG := tg_in 1127 rfl rfl
set_option maxRecDepth 30000 in
theorem ml_X7_174 : Cond.methodLink RX7 174 yX7_item ∈ tbG := tg_in 1131 rfl rfl
set_option maxRecDepth 30000 in
theorem ml_X7_138 : Cond.methodLink RX7 138 yX7_isWordAt ∈ tbG := tg_in 1135 rfl rfl
set_option maxRecDepth 30000 in
theorem ml_X7_135 : Cond.methodLink RX7 135 yX7_wrong ∈ tbG := tg_in 1139 rfl rfl
set_option maxRecDepth 30000 in
theorem ml_X7_141 : Cond.methodLink RX7 141 yX7_word ∈ tbG := tg_in 1143 rfl rfl
set_option maxRecDepth 30000 in
theorem ml_X7_145 : Cond.methodLink RX7 145 yX7_number ∈ tbG := tg_in 1147 rfl rfl
set_option maxRecDepth 30000 in
theorem ml_X7_131 : Cond.methodLink RX7 131 yX7_isDigit ∈ tbG := tg_in 1151 rfl rfl
set_option maxRecDepth 30000 in
theorem ml_X7_148 : Cond.methodLink RX7 148 yX7_isSo ∈ tbG := tg_in 1155 rfl rfl
set_option maxRecDepth 30000 in
theorem ml_X7_151 : Cond.methodLink RX7 151 yX7_dips ∈ tbG := tg_in 1159 rfl rfl
set_option maxRecDepth 30000 in
theorem ml_X7_230 : Cond.methodLink RX7 230 yX7_tries ∈ tbG := tg_in 1163 rfl rfl
set_option maxRecDepth 30000 in
theorem ml_X7_206 : Cond.methodLink RX7 206 yX7_lays ∈ tbG := tg_in 1167 rfl rfl
set_option maxRecDepth 30000 in
theorem ml_X7_210 : Cond.methodLink RX7 210 yX7_dunks ∈ tbG := tg_in 1171 rfl rfl
set_option maxRecDepth 30000 in
theorem ml_X7_202 : Cond.methodLink RX7 202 yX7_goesBy ∈ tbG := tg_in 1175 rfl rfl
set_option maxRecDepth 30000 in
theorem ml_X7_199 : Cond.methodLink RX7 199 yX7_breakOf ∈ tbG := tg_in 1179 rfl rfl
set_option maxRecDepth 30000 in
theorem ml_X7_189 : Cond.methodLink RX7 189 yX7_hangsOf ∈ tbG := tg_in 1183 rfl rfl
set_option maxRecDepth 30000 in
theorem ml_X7_192 : Cond.methodLink RX7 192 yX7_holdsOf ∈ tbG := tg_in 1187 rfl rfl
set_option maxRecDepth 30000 in
theorem ml_X7_260 : Cond.methodLink RX7 260 yX7_stays ∈ tbG := tg_in 1191 rfl rfl
set_option maxRecDepth 30000 in
theorem ml_X7_263 : Cond.methodLink RX7 263 yX7_passes ∈ tbG := tg_in 1195 rfl rfl
set_option maxRecDepth 30000 in
theorem ml_X7_246 : Cond.methodLink RX7 246 yX7_heatBehind ∈ tbG := tg_in 1199 rfl rfl
set_option maxRecDepth 30000 in
theorem ml_L_77 : Cond.methodLink RL 77 yX7_fault ∈ tbG := tg_in 1203 rfl rfl
set_option maxRecDepth 30000 in
theorem ml_L_81 : Cond.methodLink RL 81 yX7_soak ∈ tbG := tg_in 1207 rfl rfl
set_option maxRecDepth 30000 in
theorem ml_L_85 : Cond.methodLink RL 85 yX7_cellOf ∈ tbG := tg_in 1211 rfl rfl
set_option maxRecDepth 30000 in
theorem ml_X7_214 : Cond.methodLink RX7 214 yX7_noFar ∈ tbG := tg_in 1215 rfl rfl
set_option maxRecDepth 30000 in
theorem ml_L_89 : Cond.methodLink RL 89 yX7_breaks ∈ tbG := tg_in 1219 rfl rfl
set_option maxRecDepth 30000 in
theorem ml_X7_217 : Cond.methodLink RX7 217 yX7_noTen ∈ tbG := tg_in 1223 rfl rfl
set_option maxRecDepth 30000 in
theorem ml_L_94 : Cond.methodLink RL 94 yX7_left ∈ tbG := tg_in 1227 rfl rfl
set_option maxRecDepth 30000 in
theorem ml_X7_226 : Cond.methodLink RX7 226 yX7_may ∈ tbG := tg_in 1231 rfl rfl
set_option maxRecDepth 30000 in
theorem ml_X7_220 : Cond.methodLink RX7 220 yX7_isDeep ∈ tbG := tg_in 1235 rfl rfl
set_option maxRecDepth 30000 in
theorem ml_X7_223 : Cond.methodLink RX7 223 yX7_isLong ∈ tbG := tg_in 1239 rfl rfl
set_option maxRecDepth 30000 in
theorem ml_L_98 : Cond.methodLink RL 98 yX7_wetness ∈ tbG := tg_in 1243 rfl rfl
set_option maxRecDepth 30000 in
theorem ml_L_102 : Cond.methodLink RL 102 yX7_when ∈ tbG := tg_in 1247 rfl rfl
set_option maxRecDepth 30000 in
theorem ml_L_106 : Cond.methodLink RL 106 yX7_longest ∈ tbG := tg_in 1251 rfl rfl
set_option maxRecDepth 30000 in
theorem ml_X7_233 : Cond.methodLink RX7 233 yX7_isWhole ∈ tbG := tg_in 1255 rfl rfl
set_option maxRecDepth 30000 in
theorem ml_L_110 : Cond.methodLink RL 110 yX7_far ∈ tbG := tg_in 1259 rfl rfl
set_option maxRecDepth 30000 in
theorem ml_L_114 : Cond.methodLink RL 114 yX7_worth ∈ tbG := tg_in 1263 rfl rfl
set_option maxRecDepth 30000 in
theorem ml_X7_237 : Cond.methodLink RX7 237 yX7_worthNow ∈ tbG := tg_in 1267 rfl rfl
set_option maxRecDepth 30000 in
theorem ml_L_118 : Cond.methodLink RL 118 yX7_best ∈ tbG := tg_in 1271 rfl rfl
set_option maxRecDepth 30000 in
theorem ml_X7_240 : Cond.methodLink RX7 240 yX7_turnsRow ∈ tbG := tg_in 1275 rfl rfl
set_option maxRecDepth 30000 in
theorem ml_L_122 : Cond.methodLink RL 122 yX7_twice ∈ tbG := tg_in 1279 rfl rfl
set_option maxRecDepth 30000 in
theorem ml_L_126 : Cond.methodLink RL 126 yX7_goes ∈ tbG := tg_in 1283 rfl rfl
set_option maxRecDepth 30000 in
theorem ml_L_130 : Cond.methodLink RL 130 yX7_plate ∈ tbG := tg_in 1287 rfl rfl
set_option maxRecDepth 30000 in
theorem ml_X7_249 : Cond.methodLink RX7 249 yX7_plates ∈ tbG := tg_in 1291 rfl rfl
set_option maxRecDepth 30000 in
theorem ml_L_134 : Cond.methodLink RL 134 yX7_rule ∈ tbG := tg_in 1295 rfl rfl
set_option maxRecDepth 30000 in
theorem ml_L_139 : Cond.methodLink RL 139 yX7_back ∈ tbG := tg_in 1299 rfl rfl
set_option maxRecDepth 30000 in
theorem ml_X7_253 : Cond.methodLink RX7 253 yX7_bars ∈ tbG := tg_in 1303 rfl rfl
set_option maxRecDepth 30000 in
theorem ml_X7_256 : Cond.methodLink RX7 256 yX7_isBack ∈ tbG := tg_in 1307 rfl rfl
set_option maxRecDepth 30000 in
theorem ml_L_143 : Cond.methodLink RL 143 yX7_heats ∈ tbG := tg_in 1311 rfl rfl
set_option maxRecDepth 30000 in
theorem ml_L_147 : Cond.methodLink RL 147 yX7_fetch ∈ tbG := tg_in 1315 rfl rfl
set_option maxRecDepth 30000 in
theorem ml_L_151 : Cond.methodLink RL 151 yX7_dip ∈ tbG := tg_in 1319 rfl rfl
set_option maxRecDepth 30000 in
theorem ml_L_155 : Cond.methodLink RL 155 yX7_carry ∈ tbG := tg_in 1323 rfl rfl
set_option maxRecDepth 30000 in
theorem ml_X7_266 : Cond.methodLink RX7 266 yX7_carriesOff ∈ tbG := tg_in 1327 rfl rfl
set_option maxRecDepth 30000 in
theorem ml_L_159 : Cond.methodLink RL 159 yX7_turn ∈ tbG := tg_in 1331 rfl rfl
set_option maxRecDepth 30000 in
theorem ml_X7_269 : Cond.methodLink RX7 269 yX7_turns ∈ tbG := tg_in 1335 rfl rfl
set_option maxRecDepth 30000 in
theorem ml_L_163 : Cond.methodLink RL 163 yX7_eats ∈ tbG := tg_in 1339 rfl rfl
set_option maxRecDepth 30000 in
theorem ml_X7_272 : Cond.methodLink RX7 272 yX7_eaten ∈ tbG := tg_in 1343 rfl rfl
set_option maxRecDepth 30000 in
theorem ml_L_167 : Cond.methodLink RL 167 yX7_teas ∈ tbG := tg_in 1347 rfl rfl
set_option maxRecDepth 30000 in
theorem ml_X7_276 : Cond.methodLink RX7 276 yX7_draw ∈ tbG := tg_in 1351 rfl rfl
set_option maxRecDepth 30000 in
theorem ml_L_171 : Cond.methodLink RL 171 yX7_seed ∈ tbG := tg_in 1356 rfl rfl
set_option maxRecDepth 30000 in
theorem ml_L_175 : Cond.methodLink RL 175 yX7_act ∈ tbG := tg_in 1360 rfl rfl
set_option maxRecDepth 30000 in
theorem ml_X7_285 : Cond.methodLink RX7 285 yX7_soaking ∈ tbG := tg_in 1364 rfl rfl
set_option maxRecDepth 30000 in
theorem ml_X7_282 : Cond.methodLink RX7 282 yX7_body ∈ tbG := tg_in 1368 rfl rfl
set_option maxRecDepth 30000 in
theorem ml_X7_288 : Cond.methodLink RX7 288 yX7_creeping ∈ tbG := tg_in 1372 rfl rfl
set_option maxRecDepth 30000 in
theorem ml_X7_291 : Cond.methodLink RX7 291 yX7_breaking ∈ tbG := tg_in 1376 rfl rfl
set_option maxRecDepth 30000 in
theorem ml_L_179 : Cond.methodLink RL 179 yX7_trace ∈ tbG := tg_in 1380 rfl rfl
set_option maxRecDepth 30000 in
theorem ml_L_183 : Cond.methodLink RL 183 yX7_image ∈ tbG := tg_in 1384 rfl rfl
set_option maxRecDepth 30000 in
theorem ml_L_187 : Cond.methodLink RL 187 yX7_restore ∈ tbG := tg_in 1388 rfl rfl
set_option maxRecDepth 30000 in
theorem ml_L_191 : Cond.methodLink RL 191 yX7_status ∈ tbG := tg_in 1392 rfl rfl
set_option maxRecDepth 30000 in
theorem mn_X5_34 : Cond.methodLinkNest RX5 34 yX1_init "DunkedBiscuits" ∈ tbN := by decide +kernel
set_option maxRecDepth 30000 in
theorem mn_X6_30 : Cond.methodLinkNest RX6 30 yX2_init "DunkedBiscuits" ∈ tbN := by decide +kernel
set_option maxRecDepth 30000 in
theorem mn_X2_11 : Cond.methodLinkNest RX2 11 yX1_init "DunkedBiscuits" ∈ tbN := by decide +kernel
set_option maxRecDepth 30000 in
theorem mn_X6_49 : Cond.methodLinkNest RX6 49 yX0_init "DunkedBiscuits" ∈ tbN := by decide +kernel
set_option maxRecDepth 30000 in
theorem mn_X6_56 : Cond.methodLinkNest RX6 56 yX1_init "DunkedBiscuits" ∈ tbN := by decide +kernel
set_option maxRecDepth 30000 in
theorem mn_X6_78 : Cond.methodLinkNest RX6 78 yX4_init "DunkedBiscuits" ∈ tbN := by decide +kernel
set_option maxRecDepth 30000 in
theorem mn_X3_101 : Cond.methodLinkNest RX3 101 yX6_isWithin "DunkedBiscuits" ∈ tbN := by decide +kernel
set_option maxRecDepth 30000 in
theorem mn_X5_78 : Cond.methodLinkNest RX5 78 yX6_isWithin "DunkedBiscuits" ∈ tbN := by decide +kernel
set_option maxRecDepth 30000 in
theorem mn_X6_327 : Cond.methodLinkNest RX6 327 yX0_run "DunkedBiscuits" ∈ tbN := by decide +kernel
set_option maxRecDepth 30000 in
theorem mn_X0_43 : Cond.methodLinkNest RX0 43 yX6_isWithin "DunkedBiscuits" ∈ tbN := by decide +kernel
set_option maxRecDepth 30000 in
theorem fn_X1_34 : Cond.fieldLinkNest RX1 34 "DunkedBiscuits" "ABOVE" "[I" "DunkedBiscuits" ∈ tbN := by decide +kernel
set_option maxRecDepth 30000 in
theorem fn_X0_26 : Cond.fieldLinkNest RX0 26 "DunkedBiscuits" "ABOVE" "[I" "DunkedBiscuits" ∈ tbN := by decide +kernel
set_option maxRecDepth 30000 in
theorem kw_X5_134 : Cond.constant RX5 134 1103515245 ∈ tbG := tg_in 860 rfl rfl
set_option maxRecDepth 30000 in
theorem kw_X7_275 : Cond.constant RX7 275 1103515245 ∈ tbG := tg_in 1355 rfl rfl
set_option maxRecDepth 30000 in
theorem kw_L_18 : Cond.constantLong RL 18 4294967295 ∈ tbG := tg_in 1396 rfl rfl

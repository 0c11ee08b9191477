theorem ugX0 : ∀ w ∈ u_ws RX0 TX0 8, w ∈ gtb := by decide +kernel
theorem ugX1 : ∀ w ∈ u_ws RX1 TX1 2, w ∈ gtb := by decide +kernel
theorem ugX2 : ∀ w ∈ u_ws RX2 TX2 2, w ∈ gtb := by decide +kernel
theorem ugX3 : ∀ w ∈ u_ws RX3 TX3 2, w ∈ gtb := by decide +kernel
theorem ugX4 : ∀ w ∈ u_ws RX4 TX4 14, w ∈ gtb := by decide +kernel
theorem ugX5 : ∀ w ∈ u_ws RX5 TX5 5, w ∈ gtb := by decide +kernel
theorem ugX6 : ∀ w ∈ u_ws RX6 TX6 4, w ∈ gtb := by decide +kernel
theorem ugX7 : ∀ w ∈ u_ws RX7 TX7 3, w ∈ gtb := by decide +kernel
theorem ugX8 : ∀ w ∈ u_ws RX8 TX8 3, w ∈ gtb := by decide +kernel
theorem ugX9 : ∀ w ∈ u_ws RX9 TX9 2, w ∈ gtb := by decide +kernel
theorem ugX10 : ∀ w ∈ u_ws RX10 TX10 5, w ∈ gtb := by decide +kernel
theorem ugX11 : ∀ w ∈ u_ws RX11 TX11 14, w ∈ gtb := by decide +kernel
abbrev mdX0_init : MD := (yX0_init, cX0_init, 2, none)
theorem mwX0_init : MW mdX0_init 1 ∧ Cond.instanceMethod mdX0_init.1 ∈ gtb := ⟨⟨gtb_of 221 (by decide +kernel) (by decide +kernel), gtb_of 18 (by decide +kernel) (by decide +kernel), ⟨by decide +kernel, by decide +kernel⟩, by decide +kernel⟩, gtb_of 220 (by decide +kernel) (by decide +kernel)⟩
abbrev mdX0_renew : MD := (yX0_renew, cX0_renew, 1, none)
theorem mwX0_renew : MWV mdX0_renew 0 := ⟨⟨gtb_of 750 (by decide +kernel) (by decide +kernel), gtb_of 18 (by decide +kernel) (by decide +kernel), ⟨by decide +kernel, by decide +kernel⟩, by decide +kernel⟩, gtb_of 748 (by decide +kernel) (by decide +kernel), gtb_of 749 (by decide +kernel) (by decide +kernel)⟩
abbrev mdX0_number : MD := (yX0_number, cX0_number, 2, (some .int))
theorem mwX0_number : MWV mdX0_number 1 := ⟨⟨gtb_of 516 (by decide +kernel) (by decide +kernel), gtb_of 18 (by decide +kernel) (by decide +kernel), ⟨by decide +kernel, by decide +kernel⟩, by decide +kernel⟩, gtb_of 514 (by decide +kernel) (by decide +kernel), gtb_of 515 (by decide +kernel) (by decide +kernel)⟩
abbrev mdX0_choose : MD := (yX0_choose, cX0_choose, 6, none)
theorem mwX0_choose : MWV mdX0_choose 3 := ⟨⟨gtb_of 489 (by decide +kernel) (by decide +kernel), gtb_of 18 (by decide +kernel) (by decide +kernel), ⟨by decide +kernel, by decide +kernel⟩, by decide +kernel⟩, gtb_of 487 (by decide +kernel) (by decide +kernel), gtb_of 488 (by decide +kernel) (by decide +kernel)⟩
abbrev mdX0_tryRow : MD := (yX0_tryRow, cX0_tryRow, 8, (some .boolean))
theorem mwX0_tryRow : MWV mdX0_tryRow 1 := ⟨⟨gtb_of 493 (by decide +kernel) (by decide +kernel), gtb_of 18 (by decide +kernel) (by decide +kernel), ⟨by decide +kernel, by decide +kernel⟩, by decide +kernel⟩, gtb_of 492 (by decide +kernel) (by decide +kernel), gtb_of 1 (by decide +kernel) (by decide +kernel)⟩
abbrev mdX0_weigh : MD := (yX0_weigh, cX0_weigh, 2, none)
theorem mwX0_weigh : MWV mdX0_weigh 0 := ⟨⟨gtb_of 502 (by decide +kernel) (by decide +kernel), gtb_of 18 (by decide +kernel) (by decide +kernel), ⟨by decide +kernel, by decide +kernel⟩, by decide +kernel⟩, gtb_of 501 (by decide +kernel) (by decide +kernel), gtb_of 2 (by decide +kernel) (by decide +kernel)⟩
abbrev mdX1_init : MD := (yX1_init, cX1_init, 1, none)
theorem mwX1_init : MW mdX1_init 0 ∧ Cond.instanceMethod mdX1_init.1 ∈ gtb := ⟨⟨gtb_of 124 (by decide +kernel) (by decide +kernel), gtb_of 13 (by decide +kernel) (by decide +kernel), ⟨by decide +kernel, by decide +kernel⟩, by decide +kernel⟩, gtb_of 123 (by decide +kernel) (by decide +kernel)⟩
abbrev mdX2_init : MD := (yX2_init, cX2_init, 3, none)
theorem mwX2_init : MW mdX2_init 2 ∧ Cond.instanceMethod mdX2_init.1 ∈ gtb := ⟨⟨gtb_of 272 (by decide +kernel) (by decide +kernel), gtb_of 20 (by decide +kernel) (by decide +kernel), ⟨by decide +kernel, by decide +kernel⟩, by decide +kernel⟩, gtb_of 271 (by decide +kernel) (by decide +kernel)⟩
abbrev mdX2_gain : MD := (yX2_gain, cX2_gain, 3, (some .int))
theorem mwX2_gain : MWV mdX2_gain 2 := ⟨⟨gtb_of 531 (by decide +kernel) (by decide +kernel), gtb_of 20 (by decide +kernel) (by decide +kernel), ⟨by decide +kernel, by decide +kernel⟩, by decide +kernel⟩, gtb_of 529 (by decide +kernel) (by decide +kernel), gtb_of 530 (by decide +kernel) (by decide +kernel)⟩
abbrev mdX2_added : MD := (yX2_added, cX2_added, 4, (some .int))
theorem mwX2_added : MWV mdX2_added 1 := ⟨⟨gtb_of 526 (by decide +kernel) (by decide +kernel), gtb_of 20 (by decide +kernel) (by decide +kernel), ⟨by decide +kernel, by decide +kernel⟩, by decide +kernel⟩, gtb_of 524 (by decide +kernel) (by decide +kernel), gtb_of 525 (by decide +kernel) (by decide +kernel)⟩
abbrev mdX2_mostHarmed : MD := (yX2_mostHarmed, cX2_mostHarmed, 4, (some .int))
theorem mwX2_mostHarmed : MWV mdX2_mostHarmed 1 := ⟨⟨gtb_of 540 (by decide +kernel) (by decide +kernel), gtb_of 20 (by decide +kernel) (by decide +kernel), ⟨by decide +kernel, by decide +kernel⟩, by decide +kernel⟩, gtb_of 538 (by decide +kernel) (by decide +kernel), gtb_of 539 (by decide +kernel) (by decide +kernel)⟩
abbrev mdX2_eased : MD := (yX2_eased, cX2_eased, 3, (some .int))
theorem mwX2_eased : MWV mdX2_eased 2 := ⟨⟨gtb_of 583 (by decide +kernel) (by decide +kernel), gtb_of 20 (by decide +kernel) (by decide +kernel), ⟨by decide +kernel, by decide +kernel⟩, by decide +kernel⟩, gtb_of 581 (by decide +kernel) (by decide +kernel), gtb_of 582 (by decide +kernel) (by decide +kernel)⟩
abbrev mdX2_weighPeople : MD := (yX2_weighPeople, cX2_weighPeople, 16, none)
theorem mwX2_weighPeople : MWV mdX2_weighPeople 1 := ⟨⟨gtb_of 550 (by decide +kernel) (by decide +kernel), gtb_of 20 (by decide +kernel) (by decide +kernel), ⟨by decide +kernel, by decide +kernel⟩, by decide +kernel⟩, gtb_of 548 (by decide +kernel) (by decide +kernel), gtb_of 549 (by decide +kernel) (by decide +kernel)⟩
abbrev mdX2_mostTelling : MD := (yX2_mostTelling, cX2_mostTelling, 11, (some .int))
theorem mwX2_mostTelling : MWV mdX2_mostTelling 0 := ⟨⟨gtb_of 571 (by decide +kernel) (by decide +kernel), gtb_of 20 (by decide +kernel) (by decide +kernel), ⟨by decide +kernel, by decide +kernel⟩, by decide +kernel⟩, gtb_of 569 (by decide +kernel) (by decide +kernel), gtb_of 570 (by decide +kernel) (by decide +kernel)⟩
abbrev mdX3_init : MD := (yX3_init, cX3_init, 1, none)
theorem mwX3_init : MW mdX3_init 0 ∧ Cond.instanceMethod mdX3_init.1 ∈ gtb := ⟨⟨gtb_of 257 (by decide +kernel) (by decide +kernel), gtb_of 19 (by decide +kernel) (by decide +kernel), ⟨by decide +kernel, by decide +kernel⟩, by decide +kernel⟩, gtb_of 256 (by decide +kernel) (by decide +kernel)⟩
abbrev mdX3_set : MD := (yX3_set, cX3_set, 7, none)
theorem mwX3_set : MWV mdX3_set 2 := ⟨⟨gtb_of 555 (by decide +kernel) (by decide +kernel), gtb_of 19 (by decide +kernel) (by decide +kernel), ⟨by decide +kernel, by decide +kernel⟩, by decide +kernel⟩, gtb_of 553 (by decide +kernel) (by decide +kernel), gtb_of 554 (by decide +kernel) (by decide +kernel)⟩
abbrev mdX3_part : MD := (yX3_part, cX3_part, 2, (some .long))
theorem mwX3_part : MWV mdX3_part 1 := ⟨⟨gtb_of 562 (by decide +kernel) (by decide +kernel), gtb_of 19 (by decide +kernel) (by decide +kernel), ⟨by decide +kernel, by decide +kernel⟩, by decide +kernel⟩, gtb_of 560 (by decide +kernel) (by decide +kernel), gtb_of 561 (by decide +kernel) (by decide +kernel)⟩
abbrev mdX3_commonDivisor : MD := (yX3_commonDivisor, cX3_commonDivisor, 11, (some .long))
theorem mwX3_commonDivisor : MWS mdX3_commonDivisor 2 := ⟨⟨gtb_of 558 (by decide +kernel) (by decide +kernel), gtb_of 19 (by decide +kernel) (by decide +kernel), ⟨by decide +kernel, by decide +kernel⟩, by decide +kernel⟩, gtb_of 557 (by decide +kernel) (by decide +kernel)⟩
abbrev mdX4_init : MD := (yX4_init, cX4_init, 1, none)
theorem mwX4_init : MW mdX4_init 0 ∧ Cond.instanceMethod mdX4_init.1 ∈ gtb := ⟨⟨gtb_of 51 (by decide +kernel) (by decide +kernel), gtb_of 12 (by decide +kernel) (by decide +kernel), ⟨by decide +kernel, by decide +kernel⟩, by decide +kernel⟩, gtb_of 50 (by decide +kernel) (by decide +kernel)⟩
abbrev mdX4_clear : MD := (yX4_clear, cX4_clear, 1, none)
theorem mwX4_clear : MWV mdX4_clear 0 := ⟨⟨gtb_of 56 (by decide +kernel) (by decide +kernel), gtb_of 12 (by decide +kernel) (by decide +kernel), ⟨by decide +kernel, by decide +kernel⟩, by decide +kernel⟩, gtb_of 54 (by decide +kernel) (by decide +kernel), gtb_of 55 (by decide +kernel) (by decide +kernel)⟩
abbrev mdX4_copy : MD := (yX4_copy, cX4_copy, 2, none)
theorem mwX4_copy : MWV mdX4_copy 1 := ⟨⟨gtb_of 744 (by decide +kernel) (by decide +kernel), gtb_of 12 (by decide +kernel) (by decide +kernel), ⟨by decide +kernel, by decide +kernel⟩, by decide +kernel⟩, gtb_of 742 (by decide +kernel) (by decide +kernel), gtb_of 743 (by decide +kernel) (by decide +kernel)⟩
abbrev mdX4_addSort : MD := (yX4_addSort, cX4_addSort, 5, (some .boolean))
theorem mwX4_addSort : MWV mdX4_addSort 4 := ⟨⟨gtb_of 309 (by decide +kernel) (by decide +kernel), gtb_of 12 (by decide +kernel) (by decide +kernel), ⟨by decide +kernel, by decide +kernel⟩, by decide +kernel⟩, gtb_of 307 (by decide +kernel) (by decide +kernel), gtb_of 308 (by decide +kernel) (by decide +kernel)⟩
abbrev mdX4_addAsk : MD := (yX4_addAsk, cX4_addAsk, 5, (some .boolean))
theorem mwX4_addAsk : MWV mdX4_addAsk 4 := ⟨⟨gtb_of 316 (by decide +kernel) (by decide +kernel), gtb_of 12 (by decide +kernel) (by decide +kernel), ⟨by decide +kernel, by decide +kernel⟩, by decide +kernel⟩, gtb_of 314 (by decide +kernel) (by decide +kernel), gtb_of 315 (by decide +kernel) (by decide +kernel)⟩
abbrev mdX4_setMan : MD := (yX4_setMan, cX4_setMan, 2, (some .boolean))
theorem mwX4_setMan : MWV mdX4_setMan 1 := ⟨⟨gtb_of 739 (by decide +kernel) (by decide +kernel), gtb_of 12 (by decide +kernel) (by decide +kernel), ⟨by decide +kernel, by decide +kernel⟩, by decide +kernel⟩, gtb_of 737 (by decide +kernel) (by decide +kernel), gtb_of 738 (by decide +kernel) (by decide +kernel)⟩
abbrev mdX4_setPain : MD := (yX4_setPain, cX4_setPain, 3, (some .boolean))
theorem mwX4_setPain : MWV mdX4_setPain 2 := ⟨⟨gtb_of 60 (by decide +kernel) (by decide +kernel), gtb_of 12 (by decide +kernel) (by decide +kernel), ⟨by decide +kernel, by decide +kernel⟩, by decide +kernel⟩, gtb_of 58 (by decide +kernel) (by decide +kernel), gtb_of 59 (by decide +kernel) (by decide +kernel)⟩
abbrev mdX4_hasSort : MD := (yX4_hasSort, cX4_hasSort, 2, (some .boolean))
theorem mwX4_hasSort : MWV mdX4_hasSort 1 := ⟨⟨gtb_of 367 (by decide +kernel) (by decide +kernel), gtb_of 12 (by decide +kernel) (by decide +kernel), ⟨by decide +kernel, by decide +kernel⟩, by decide +kernel⟩, gtb_of 365 (by decide +kernel) (by decide +kernel), gtb_of 366 (by decide +kernel) (by decide +kernel)⟩
abbrev mdX4_hasAsk : MD := (yX4_hasAsk, cX4_hasAsk, 2, (some .boolean))
theorem mwX4_hasAsk : MWV mdX4_hasAsk 1 := ⟨⟨gtb_of 371 (by decide +kernel) (by decide +kernel), gtb_of 12 (by decide +kernel) (by decide +kernel), ⟨by decide +kernel, by decide +kernel⟩, by decide +kernel⟩, gtb_of 369 (by decide +kernel) (by decide +kernel), gtb_of 370 (by decide +kernel) (by decide +kernel)⟩
abbrev mdX4_size : MD := (yX4_size, cX4_size, 2, (some .int))
theorem mwX4_size : MWV mdX4_size 1 := ⟨⟨gtb_of 420 (by decide +kernel) (by decide +kernel), gtb_of 12 (by decide +kernel) (by decide +kernel), ⟨by decide +kernel, by decide +kernel⟩, by decide +kernel⟩, gtb_of 418 (by decide +kernel) (by decide +kernel), gtb_of 419 (by decide +kernel) (by decide +kernel)⟩
abbrev mdX4_bentOf : MD := (yX4_bentOf, cX4_bentOf, 2, (some .int))
theorem mwX4_bentOf : MWV mdX4_bentOf 1 := ⟨⟨gtb_of 459 (by decide +kernel) (by decide +kernel), gtb_of 12 (by decide +kernel) (by decide +kernel), ⟨by decide +kernel, by decide +kernel⟩, by decide +kernel⟩, gtb_of 457 (by decide +kernel) (by decide +kernel), gtb_of 458 (by decide +kernel) (by decide +kernel)⟩
abbrev mdX4_length : MD := (yX4_length, cX4_length, 2, (some .int))
theorem mwX4_length : MWV mdX4_length 1 := ⟨⟨gtb_of 498 (by decide +kernel) (by decide +kernel), gtb_of 12 (by decide +kernel) (by decide +kernel), ⟨by decide +kernel, by decide +kernel⟩, by decide +kernel⟩, gtb_of 496 (by decide +kernel) (by decide +kernel), gtb_of 497 (by decide +kernel) (by decide +kernel)⟩
abbrev mdX4_meanBent : MD := (yX4_meanBent, cX4_meanBent, 3, (some .int))
theorem mwX4_meanBent : MWV mdX4_meanBent 0 := ⟨⟨gtb_of 454 (by decide +kernel) (by decide +kernel), gtb_of 12 (by decide +kernel) (by decide +kernel), ⟨by decide +kernel, by decide +kernel⟩, by decide +kernel⟩, gtb_of 452 (by decide +kernel) (by decide +kernel), gtb_of 453 (by decide +kernel) (by decide +kernel)⟩
abbrev mdX4_easedBySugar : MD := (yX4_easedBySugar, cX4_easedBySugar, 1, (some .int))
theorem mwX4_easedBySugar : MWV mdX4_easedBySugar 0 := ⟨⟨gtb_of 588 (by decide +kernel) (by decide +kernel), gtb_of 12 (by decide +kernel) (by decide +kernel), ⟨by decide +kernel, by decide +kernel⟩, by decide +kernel⟩, gtb_of 586 (by decide +kernel) (by decide +kernel), gtb_of 587 (by decide +kernel) (by decide +kernel)⟩
abbrev mdX4_feeling : MD := (yX4_feeling, cX4_feeling, 5, (some .int))
theorem mwX4_feeling : MWV mdX4_feeling 3 := ⟨⟨gtb_of 376 (by decide +kernel) (by decide +kernel), gtb_of 12 (by decide +kernel) (by decide +kernel), ⟨by decide +kernel, by decide +kernel⟩, by decide +kernel⟩, gtb_of 374 (by decide +kernel) (by decide +kernel), gtb_of 375 (by decide +kernel) (by decide +kernel)⟩
abbrev mdX4_playing : MD := (yX4_playing, cX4_playing, 5, (some .int))
theorem mwX4_playing : MWV mdX4_playing 3 := ⟨⟨gtb_of 386 (by decide +kernel) (by decide +kernel), gtb_of 12 (by decide +kernel) (by decide +kernel), ⟨by decide +kernel, by decide +kernel⟩, by decide +kernel⟩, gtb_of 384 (by decide +kernel) (by decide +kernel), gtb_of 385 (by decide +kernel) (by decide +kernel)⟩
abbrev mdX4_doing : MD := (yX4_doing, cX4_doing, 4, (some .int))
theorem mwX4_doing : MWV mdX4_doing 3 := ⟨⟨gtb_of 390 (by decide +kernel) (by decide +kernel), gtb_of 12 (by decide +kernel) (by decide +kernel), ⟨by decide +kernel, by decide +kernel⟩, by decide +kernel⟩, gtb_of 388 (by decide +kernel) (by decide +kernel), gtb_of 389 (by decide +kernel) (by decide +kernel)⟩
abbrev mdX4_doing_ : MD := (yX4_doing_, cX4_doing_, 2, (some .int))
theorem mwX4_doing_ : MWS mdX4_doing_ 2 := ⟨⟨gtb_of 395 (by decide +kernel) (by decide +kernel), gtb_of 12 (by decide +kernel) (by decide +kernel), ⟨by decide +kernel, by decide +kernel⟩, by decide +kernel⟩, gtb_of 394 (by decide +kernel) (by decide +kernel)⟩
abbrev mdX4_tenths : MD := (yX4_tenths, cX4_tenths, 1, (some .int))
theorem mwX4_tenths : MWS mdX4_tenths 1 := ⟨⟨gtb_of 382 (by decide +kernel) (by decide +kernel), gtb_of 12 (by decide +kernel) (by decide +kernel), ⟨by decide +kernel, by decide +kernel⟩, by decide +kernel⟩, gtb_of 381 (by decide +kernel) (by decide +kernel)⟩
abbrev mdX5_init : MD := (yX5_init, cX5_init, 2, none)
theorem mwX5_init : MW mdX5_init 1 ∧ Cond.instanceMethod mdX5_init.1 ∈ gtb := ⟨⟨gtb_of 285 (by decide +kernel) (by decide +kernel), gtb_of 21 (by decide +kernel) (by decide +kernel), ⟨by decide +kernel, by decide +kernel⟩, by decide +kernel⟩, gtb_of 284 (by decide +kernel) (by decide +kernel)⟩
abbrev mdX5_play : MD := (yX5_play, cX5_play, 4, none)
theorem mwX5_play : MWV mdX5_play 2 := ⟨⟨gtb_of 632 (by decide +kernel) (by decide +kernel), gtb_of 21 (by decide +kernel) (by decide +kernel), ⟨by decide +kernel, by decide +kernel⟩, by decide +kernel⟩, gtb_of 630 (by decide +kernel) (by decide +kernel), gtb_of 631 (by decide +kernel) (by decide +kernel)⟩
abbrev mdX5_ask : MD := (yX5_ask, cX5_ask, 13, none)
theorem mwX5_ask : MWV mdX5_ask 3 := ⟨⟨gtb_of 638 (by decide +kernel) (by decide +kernel), gtb_of 21 (by decide +kernel) (by decide +kernel), ⟨by decide +kernel, by decide +kernel⟩, by decide +kernel⟩, gtb_of 637 (by decide +kernel) (by decide +kernel), gtb_of 4 (by decide +kernel) (by decide +kernel)⟩
abbrev mdX5_draw : MD := (yX5_draw, cX5_draw, 2, (some .int))
theorem mwX5_draw : MWS mdX5_draw 1 := ⟨⟨gtb_of 656 (by decide +kernel) (by decide +kernel), gtb_of 21 (by decide +kernel) (by decide +kernel), ⟨by decide +kernel, by decide +kernel⟩, by decide +kernel⟩, gtb_of 655 (by decide +kernel) (by decide +kernel)⟩
abbrev mdX5_keepOrSend : MD := (yX5_keepOrSend, cX5_keepOrSend, 4, none)
theorem mwX5_keepOrSend : MWV mdX5_keepOrSend 3 := ⟨⟨gtb_of 663 (by decide +kernel) (by decide +kernel), gtb_of 21 (by decide +kernel) (by decide +kernel), ⟨by decide +kernel, by decide +kernel⟩, by decide +kernel⟩, gtb_of 662 (by decide +kernel) (by decide +kernel), gtb_of 6 (by decide +kernel) (by decide +kernel)⟩
abbrev mdX5_playedAt : MD := (yX5_playedAt, cX5_playedAt, 2, (some .boolean))
theorem mwX5_playedAt : MWV mdX5_playedAt 1 := ⟨⟨gtb_of 647 (by decide +kernel) (by decide +kernel), gtb_of 21 (by decide +kernel) (by decide +kernel), ⟨by decide +kernel, by decide +kernel⟩, by decide +kernel⟩, gtb_of 646 (by decide +kernel) (by decide +kernel), gtb_of 5 (by decide +kernel) (by decide +kernel)⟩
abbrev mdX5_players : MD := (yX5_players, cX5_players, 3, (some .int))
theorem mwX5_players : MWV mdX5_players 0 := ⟨⟨gtb_of 667 (by decide +kernel) (by decide +kernel), gtb_of 21 (by decide +kernel) (by decide +kernel), ⟨by decide +kernel, by decide +kernel⟩, by decide +kernel⟩, gtb_of 665 (by decide +kernel) (by decide +kernel), gtb_of 666 (by decide +kernel) (by decide +kernel)⟩
abbrev mdX5_person : MD := (yX5_person, cX5_person, 4, (some .int))
theorem mwX5_person : MWV mdX5_person 1 := ⟨⟨gtb_of 643 (by decide +kernel) (by decide +kernel), gtb_of 21 (by decide +kernel) (by decide +kernel), ⟨by decide +kernel, by decide +kernel⟩, by decide +kernel⟩, gtb_of 641 (by decide +kernel) (by decide +kernel), gtb_of 642 (by decide +kernel) (by decide +kernel)⟩
abbrev mdX6_init : MD := (yX6_init, cX6_init, 3, none)
theorem mwX6_init : MW mdX6_init 2 ∧ Cond.instanceMethod mdX6_init.1 ∈ gtb := ⟨⟨gtb_of 185 (by decide +kernel) (by decide +kernel), gtb_of 16 (by decide +kernel) (by decide +kernel), ⟨by decide +kernel, by decide +kernel⟩, by decide +kernel⟩, gtb_of 184 (by decide +kernel) (by decide +kernel)⟩
abbrev mdX6_read : MD := (yX6_read, cX6_read, 5, (some .int))
theorem mwX6_read : MWV mdX6_read 1 := ⟨⟨gtb_of 715 (by decide +kernel) (by decide +kernel), gtb_of 16 (by decide +kernel) (by decide +kernel), ⟨by decide +kernel, by decide +kernel⟩, by decide +kernel⟩, gtb_of 713 (by decide +kernel) (by decide +kernel), gtb_of 714 (by decide +kernel) (by decide +kernel)⟩
abbrev mdX6_readNumbers : MD := (yX6_readNumbers, cX6_readNumbers, 7, (some .int))
theorem mwX6_readNumbers : MWV mdX6_readNumbers 2 := ⟨⟨gtb_of 720 (by decide +kernel) (by decide +kernel), gtb_of 16 (by decide +kernel) (by decide +kernel), ⟨by decide +kernel, by decide +kernel⟩, by decide +kernel⟩, gtb_of 719 (by decide +kernel) (by decide +kernel), gtb_of 7 (by decide +kernel) (by decide +kernel)⟩
abbrev mdX6_take : MD := (yX6_take, cX6_take, 4, (some .boolean))
theorem mwX6_take : MWV mdX6_take 1 := ⟨⟨gtb_of 729 (by decide +kernel) (by decide +kernel), gtb_of 16 (by decide +kernel) (by decide +kernel), ⟨by decide +kernel, by decide +kernel⟩, by decide +kernel⟩, gtb_of 728 (by decide +kernel) (by decide +kernel), gtb_of 8 (by decide +kernel) (by decide +kernel)⟩
abbrev mdX7_init : MD := (yX7_init, cX7_init, 1, none)
theorem mwX7_init : MW mdX7_init 0 ∧ Cond.instanceMethod mdX7_init.1 ∈ gtb := ⟨⟨gtb_of 130 (by decide +kernel) (by decide +kernel), gtb_of 14 (by decide +kernel) (by decide +kernel), ⟨by decide +kernel, by decide +kernel⟩, by decide +kernel⟩, gtb_of 129 (by decide +kernel) (by decide +kernel)⟩
abbrev mdX7_add : MD := (yX7_add, cX7_add, 3, (some .boolean))
theorem mwX7_add : MWV mdX7_add 2 := ⟨⟨gtb_of 403 (by decide +kernel) (by decide +kernel), gtb_of 14 (by decide +kernel) (by decide +kernel), ⟨by decide +kernel, by decide +kernel⟩, by decide +kernel⟩, gtb_of 401 (by decide +kernel) (by decide +kernel), gtb_of 402 (by decide +kernel) (by decide +kernel)⟩
abbrev mdX7_copy : MD := (yX7_copy, cX7_copy, 2, none)
theorem mwX7_copy : MWV mdX7_copy 1 := ⟨⟨gtb_of 508 (by decide +kernel) (by decide +kernel), gtb_of 14 (by decide +kernel) (by decide +kernel), ⟨by decide +kernel, by decide +kernel⟩, by decide +kernel⟩, gtb_of 506 (by decide +kernel) (by decide +kernel), gtb_of 507 (by decide +kernel) (by decide +kernel)⟩
abbrev mdX7_ask : MD := (yX7_ask, cX7_ask, 2, (some .int))
theorem mwX7_ask : MWV mdX7_ask 1 := ⟨⟨gtb_of 425 (by decide +kernel) (by decide +kernel), gtb_of 14 (by decide +kernel) (by decide +kernel), ⟨by decide +kernel, by decide +kernel⟩, by decide +kernel⟩, gtb_of 423 (by decide +kernel) (by decide +kernel), gtb_of 424 (by decide +kernel) (by decide +kernel)⟩
abbrev mdX7_keepsDoers : MD := (yX7_keepsDoers, cX7_keepsDoers, 2, (some .boolean))
theorem mwX7_keepsDoers : MWV mdX7_keepsDoers 1 := ⟨⟨gtb_of 431 (by decide +kernel) (by decide +kernel), gtb_of 14 (by decide +kernel) (by decide +kernel), ⟨by decide +kernel, by decide +kernel⟩, by decide +kernel⟩, gtb_of 429 (by decide +kernel) (by decide +kernel), gtb_of 430 (by decide +kernel) (by decide +kernel)⟩
abbrev mdX8_init : MD := (yX8_init, cX8_init, 2, none)
theorem mwX8_init : MW mdX8_init 1 ∧ Cond.instanceMethod mdX8_init.1 ∈ gtb := ⟨⟨gtb_of 204 (by decide +kernel) (by decide +kernel), gtb_of 17 (by decide +kernel) (by decide +kernel), ⟨by decide +kernel, by decide +kernel⟩, by decide +kernel⟩, gtb_of 203 (by decide +kernel) (by decide +kernel)⟩
abbrev mdX8_pass : MD := (yX8_pass, cX8_pass, 7, none)
theorem mwX8_pass : MWV mdX8_pass 1 := ⟨⟨gtb_of 416 (by decide +kernel) (by decide +kernel), gtb_of 17 (by decide +kernel) (by decide +kernel), ⟨by decide +kernel, by decide +kernel⟩, by decide +kernel⟩, gtb_of 414 (by decide +kernel) (by decide +kernel), gtb_of 415 (by decide +kernel) (by decide +kernel)⟩
abbrev mdX8_remaining : MD := (yX8_remaining, cX8_remaining, 2, (some .long))
theorem mwX8_remaining : MWV mdX8_remaining 1 := ⟨⟨gtb_of 440 (by decide +kernel) (by decide +kernel), gtb_of 17 (by decide +kernel) (by decide +kernel), ⟨by decide +kernel, by decide +kernel⟩, by decide +kernel⟩, gtb_of 438 (by decide +kernel) (by decide +kernel), gtb_of 439 (by decide +kernel) (by decide +kernel)⟩
abbrev mdX8_together : MD := (yX8_together, cX8_together, 4, (some .long))
theorem mwX8_together : MWV mdX8_together 0 := ⟨⟨gtb_of 436 (by decide +kernel) (by decide +kernel), gtb_of 17 (by decide +kernel) (by decide +kernel), ⟨by decide +kernel, by decide +kernel⟩, by decide +kernel⟩, gtb_of 434 (by decide +kernel) (by decide +kernel), gtb_of 435 (by decide +kernel) (by decide +kernel)⟩
abbrev mdX8_meanBent : MD := (yX8_meanBent, cX8_meanBent, 5, (some .int))
theorem mwX8_meanBent : MWV mdX8_meanBent 0 := ⟨⟨gtb_of 463 (by decide +kernel) (by decide +kernel), gtb_of 17 (by decide +kernel) (by decide +kernel), ⟨by decide +kernel, by decide +kernel⟩, by decide +kernel⟩, gtb_of 461 (by decide +kernel) (by decide +kernel), gtb_of 462 (by decide +kernel) (by decide +kernel)⟩
abbrev mdX8_chance : MD := (yX8_chance, cX8_chance, 7, (some .int))
theorem mwX8_chance : MWV mdX8_chance 1 := ⟨⟨gtb_of 474 (by decide +kernel) (by decide +kernel), gtb_of 17 (by decide +kernel) (by decide +kernel), ⟨by decide +kernel, by decide +kernel⟩, by decide +kernel⟩, gtb_of 472 (by decide +kernel) (by decide +kernel), gtb_of 473 (by decide +kernel) (by decide +kernel)⟩
abbrev mdX8_partOne : MD := (yX8_partOne, cX8_partOne, 7, none)
theorem mwX8_partOne : MWV mdX8_partOne 2 := ⟨⟨gtb_of 478 (by decide +kernel) (by decide +kernel), gtb_of 17 (by decide +kernel) (by decide +kernel), ⟨by decide +kernel, by decide +kernel⟩, by decide +kernel⟩, gtb_of 477 (by decide +kernel) (by decide +kernel), gtb_of 0 (by decide +kernel) (by decide +kernel)⟩
abbrev mdX9_init : MD := (yX9_init, cX9_init, 1, none)
theorem mwX9_init : MW mdX9_init 0 ∧ Cond.instanceMethod mdX9_init.1 ∈ gtb := ⟨⟨gtb_of 35 (by decide +kernel) (by decide +kernel), gtb_of 11 (by decide +kernel) (by decide +kernel), ⟨by decide +kernel, by decide +kernel⟩, by decide +kernel⟩, gtb_of 34 (by decide +kernel) (by decide +kernel)⟩
abbrev mdX9_add : MD := (yX9_add, cX9_add, 2, none)
theorem mwX9_add : MWV mdX9_add 1 := ⟨⟨gtb_of 705 (by decide +kernel) (by decide +kernel), gtb_of 11 (by decide +kernel) (by decide +kernel), ⟨by decide +kernel, by decide +kernel⟩, by decide +kernel⟩, gtb_of 703 (by decide +kernel) (by decide +kernel), gtb_of 704 (by decide +kernel) (by decide +kernel)⟩
abbrev mdX9_byteAt : MD := (yX9_byteAt, cX9_byteAt, 2, (some .int))
theorem mwX9_byteAt : MWV mdX9_byteAt 1 := ⟨⟨gtb_of 724 (by decide +kernel) (by decide +kernel), gtb_of 11 (by decide +kernel) (by decide +kernel), ⟨by decide +kernel, by decide +kernel⟩, by decide +kernel⟩, gtb_of 722 (by decide +kernel) (by decide +kernel), gtb_of 723 (by decide +kernel) (by decide +kernel)⟩
abbrev mdX10_init : MD := (yX10_init, cX10_init, 1, none)
theorem mwX10_init : MW mdX10_init 0 ∧ Cond.instanceMethod mdX10_init.1 ∈ gtb := ⟨⟨gtb_of 151 (by decide +kernel) (by decide +kernel), gtb_of 15 (by decide +kernel) (by decide +kernel), ⟨by decide +kernel, by decide +kernel⟩, by decide +kernel⟩, gtb_of 150 (by decide +kernel) (by decide +kernel)⟩
abbrev mdX10_add : MD := (yX10_add, cX10_add, 5, (some .boolean))
theorem mwX10_add : MWV mdX10_add 4 := ⟨⟨gtb_of 596 (by decide +kernel) (by decide +kernel), gtb_of 15 (by decide +kernel) (by decide +kernel), ⟨by decide +kernel, by decide +kernel⟩, by decide +kernel⟩, gtb_of 594 (by decide +kernel) (by decide +kernel), gtb_of 595 (by decide +kernel) (by decide +kernel)⟩
abbrev mdX10_withoutHim : MD := (yX10_withoutHim, cX10_withoutHim, 5, (some .long))
theorem mwX10_withoutHim : MWV mdX10_withoutHim 1 := ⟨⟨gtb_of 623 (by decide +kernel) (by decide +kernel), gtb_of 15 (by decide +kernel) (by decide +kernel), ⟨by decide +kernel, by decide +kernel⟩, by decide +kernel⟩, gtb_of 621 (by decide +kernel) (by decide +kernel), gtb_of 622 (by decide +kernel) (by decide +kernel)⟩
abbrev mdX10_withHim : MD := (yX10_withHim, cX10_withHim, 6, (some .long))
theorem mwX10_withHim : MWV mdX10_withHim 1 := ⟨⟨gtb_of 609 (by decide +kernel) (by decide +kernel), gtb_of 15 (by decide +kernel) (by decide +kernel), ⟨by decide +kernel, by decide +kernel⟩, by decide +kernel⟩, gtb_of 607 (by decide +kernel) (by decide +kernel), gtb_of 608 (by decide +kernel) (by decide +kernel)⟩
abbrev mdX10_doesTenths : MD := (yX10_doesTenths, cX10_doesTenths, 3, (some .int))
theorem mwX10_doesTenths : MWV mdX10_doesTenths 2 := ⟨⟨gtb_of 615 (by decide +kernel) (by decide +kernel), gtb_of 15 (by decide +kernel) (by decide +kernel), ⟨by decide +kernel, by decide +kernel⟩, by decide +kernel⟩, gtb_of 614 (by decide +kernel) (by decide +kernel), gtb_of 3 (by decide +kernel) (by decide +kernel)⟩
abbrev mdX10_likely : MD := (yX10_likely, cX10_likely, 6, (some .long))
theorem mwX10_likely : MWS mdX10_likely 3 := ⟨⟨gtb_of 619 (by decide +kernel) (by decide +kernel), gtb_of 15 (by decide +kernel) (by decide +kernel), ⟨by decide +kernel, by decide +kernel⟩, by decide +kernel⟩, gtb_of 618 (by decide +kernel) (by decide +kernel)⟩
abbrev mdX11_init : MD := (yX11_init, cX11_init, 1, none)
theorem mwX11_init : MW mdX11_init 0 ∧ Cond.instanceMethod mdX11_init.1 ∈ gtb := ⟨⟨gtb_of 27 (by decide +kernel) (by decide +kernel), gtb_of 10 (by decide +kernel) (by decide +kernel), ⟨by decide +kernel, by decide +kernel⟩, by decide +kernel⟩, gtb_of 26 (by decide +kernel) (by decide +kernel)⟩
abbrev mdX11_write : MD := (yX11_write, cX11_write, 5, (some .int))
theorem mwX11_write : MWV mdX11_write 2 := ⟨⟨gtb_of 701 (by decide +kernel) (by decide +kernel), gtb_of 10 (by decide +kernel) (by decide +kernel), ⟨by decide +kernel, by decide +kernel⟩, by decide +kernel⟩, gtb_of 699 (by decide +kernel) (by decide +kernel), gtb_of 700 (by decide +kernel) (by decide +kernel)⟩
abbrev mdX11_wipe : MD := (yX11_wipe, cX11_wipe, 2, (some .int))
theorem mwX11_wipe : MWV mdX11_wipe 0 := ⟨⟨gtb_of 694 (by decide +kernel) (by decide +kernel), gtb_of 10 (by decide +kernel) (by decide +kernel), ⟨by decide +kernel, by decide +kernel⟩, by decide +kernel⟩, gtb_of 692 (by decide +kernel) (by decide +kernel), gtb_of 693 (by decide +kernel) (by decide +kernel)⟩
abbrev mdX11_lay : MD := (yX11_lay, cX11_lay, 1, (some .int))
theorem mwX11_lay : MWV mdX11_lay 0 := ⟨⟨gtb_of 711 (by decide +kernel) (by decide +kernel), gtb_of 10 (by decide +kernel) (by decide +kernel), ⟨by decide +kernel, by decide +kernel⟩, by decide +kernel⟩, gtb_of 709 (by decide +kernel) (by decide +kernel), gtb_of 710 (by decide +kernel) (by decide +kernel)⟩
abbrev mdX11_does : MD := (yX11_does, cX11_does, 5, (some .int))
theorem mwX11_does : MWV mdX11_does 4 := ⟨⟨gtb_of 363 (by decide +kernel) (by decide +kernel), gtb_of 10 (by decide +kernel) (by decide +kernel), ⟨by decide +kernel, by decide +kernel⟩, by decide +kernel⟩, gtb_of 361 (by decide +kernel) (by decide +kernel), gtb_of 362 (by decide +kernel) (by decide +kernel)⟩
abbrev mdX11_step : MD := (yX11_step, cX11_step, 3, (some .int))
theorem mwX11_step : MWV mdX11_step 2 := ⟨⟨gtb_of 399 (by decide +kernel) (by decide +kernel), gtb_of 10 (by decide +kernel) (by decide +kernel), ⟨by decide +kernel, by decide +kernel⟩, by decide +kernel⟩, gtb_of 397 (by decide +kernel) (by decide +kernel), gtb_of 398 (by decide +kernel) (by decide +kernel)⟩
abbrev mdX11_noRow : MD := (yX11_noRow, cX11_noRow, 2, (some .int))
theorem mwX11_noRow : MWV mdX11_noRow 0 := ⟨⟨gtb_of 408 (by decide +kernel) (by decide +kernel), gtb_of 10 (by decide +kernel) (by decide +kernel), ⟨by decide +kernel, by decide +kernel⟩, by decide +kernel⟩, gtb_of 406 (by decide +kernel) (by decide +kernel), gtb_of 407 (by decide +kernel) (by decide +kernel)⟩
abbrev mdX11_left : MD := (yX11_left, cX11_left, 2, (some .int))
theorem mwX11_left : MWV mdX11_left 1 := ⟨⟨gtb_of 412 (by decide +kernel) (by decide +kernel), gtb_of 10 (by decide +kernel) (by decide +kernel), ⟨by decide +kernel, by decide +kernel⟩, by decide +kernel⟩, gtb_of 410 (by decide +kernel) (by decide +kernel), gtb_of 411 (by decide +kernel) (by decide +kernel)⟩
abbrev mdX11_share : MD := (yX11_share, cX11_share, 4, (some .int))
theorem mwX11_share : MWV mdX11_share 1 := ⟨⟨gtb_of 445 (by decide +kernel) (by decide +kernel), gtb_of 10 (by decide +kernel) (by decide +kernel), ⟨by decide +kernel, by decide +kernel⟩, by decide +kernel⟩, gtb_of 443 (by decide +kernel) (by decide +kernel), gtb_of 444 (by decide +kernel) (by decide +kernel)⟩
abbrev mdX11_bent : MD := (yX11_bent, cX11_bent, 2, (some .int))
theorem mwX11_bent : MWV mdX11_bent 1 := ⟨⟨gtb_of 450 (by decide +kernel) (by decide +kernel), gtb_of 10 (by decide +kernel) (by decide +kernel), ⟨by decide +kernel, by decide +kernel⟩, by decide +kernel⟩, gtb_of 448 (by decide +kernel) (by decide +kernel), gtb_of 449 (by decide +kernel) (by decide +kernel)⟩
abbrev mdX11_odds : MD := (yX11_odds, cX11_odds, 2, (some .int))
theorem mwX11_odds : MWV mdX11_odds 1 := ⟨⟨gtb_of 470 (by decide +kernel) (by decide +kernel), gtb_of 10 (by decide +kernel) (by decide +kernel), ⟨by decide +kernel, by decide +kernel⟩, by decide +kernel⟩, gtb_of 468 (by decide +kernel) (by decide +kernel), gtb_of 469 (by decide +kernel) (by decide +kernel)⟩
abbrev mdX11_best : MD := (yX11_best, cX11_best, 5, (some .int))
theorem mwX11_best : MWV mdX11_best 4 := ⟨⟨gtb_of 485 (by decide +kernel) (by decide +kernel), gtb_of 10 (by decide +kernel) (by decide +kernel), ⟨by decide +kernel, by decide +kernel⟩, by decide +kernel⟩, gtb_of 483 (by decide +kernel) (by decide +kernel), gtb_of 484 (by decide +kernel) (by decide +kernel)⟩
abbrev mdX11_words : MD := (yX11_words, cX11_words, 2, (some .int))
theorem mwX11_words : MWV mdX11_words 1 := ⟨⟨gtb_of 522 (by decide +kernel) (by decide +kernel), gtb_of 10 (by decide +kernel) (by decide +kernel), ⟨by decide +kernel, by decide +kernel⟩, by decide +kernel⟩, gtb_of 520 (by decide +kernel) (by decide +kernel), gtb_of 521 (by decide +kernel) (by decide +kernel)⟩
abbrev mdX11_harm : MD := (yX11_harm, cX11_harm, 4, (some .int))
theorem mwX11_harm : MWV mdX11_harm 2 := ⟨⟨gtb_of 536 (by decide +kernel) (by decide +kernel), gtb_of 10 (by decide +kernel) (by decide +kernel), ⟨by decide +kernel, by decide +kernel⟩, by decide +kernel⟩, gtb_of 534 (by decide +kernel) (by decide +kernel), gtb_of 535 (by decide +kernel) (by decide +kernel)⟩
abbrev mdX11_people : MD := (yX11_people, cX11_people, 2, (some .long))
theorem mwX11_people : MWV mdX11_people 1 := ⟨⟨gtb_of 545 (by decide +kernel) (by decide +kernel), gtb_of 10 (by decide +kernel) (by decide +kernel), ⟨by decide +kernel, by decide +kernel⟩, by decide +kernel⟩, gtb_of 543 (by decide +kernel) (by decide +kernel), gtb_of 544 (by decide +kernel) (by decide +kernel)⟩
abbrev mdX11_tells : MD := (yX11_tells, cX11_tells, 1, (some .int))
theorem mwX11_tells : MWV mdX11_tells 0 := ⟨⟨gtb_of 567 (by decide +kernel) (by decide +kernel), gtb_of 10 (by decide +kernel) (by decide +kernel), ⟨by decide +kernel, by decide +kernel⟩, by decide +kernel⟩, gtb_of 565 (by decide +kernel) (by decide +kernel), gtb_of 566 (by decide +kernel) (by decide +kernel)⟩
abbrev mdX11_relief : MD := (yX11_relief, cX11_relief, 4, (some .int))
theorem mwX11_relief : MWV mdX11_relief 3 := ⟨⟨gtb_of 579 (by decide +kernel) (by decide +kernel), gtb_of 10 (by decide +kernel) (by decide +kernel), ⟨by decide +kernel, by decide +kernel⟩, by decide +kernel⟩, gtb_of 577 (by decide +kernel) (by decide +kernel), gtb_of 578 (by decide +kernel) (by decide +kernel)⟩
abbrev mdX11_tell : MD := (yX11_tell, cX11_tell, 5, (some .int))
theorem mwX11_tell : MWV mdX11_tell 4 := ⟨⟨gtb_of 592 (by decide +kernel) (by decide +kernel), gtb_of 10 (by decide +kernel) (by decide +kernel), ⟨by decide +kernel, by decide +kernel⟩, by decide +kernel⟩, gtb_of 590 (by decide +kernel) (by decide +kernel), gtb_of 591 (by decide +kernel) (by decide +kernel)⟩
abbrev mdX11_forget : MD := (yX11_forget, cX11_forget, 2, (some .int))
theorem mwX11_forget : MWV mdX11_forget 0 := ⟨⟨gtb_of 601 (by decide +kernel) (by decide +kernel), gtb_of 10 (by decide +kernel) (by decide +kernel), ⟨by decide +kernel, by decide +kernel⟩, by decide +kernel⟩, gtb_of 599 (by decide +kernel) (by decide +kernel), gtb_of 600 (by decide +kernel) (by decide +kernel)⟩
abbrev mdX11_man : MD := (yX11_man, cX11_man, 6, (some .long))
theorem mwX11_man : MWV mdX11_man 1 := ⟨⟨gtb_of 605 (by decide +kernel) (by decide +kernel), gtb_of 10 (by decide +kernel) (by decide +kernel), ⟨by decide +kernel, by decide +kernel⟩, by decide +kernel⟩, gtb_of 603 (by decide +kernel) (by decide +kernel), gtb_of 604 (by decide +kernel) (by decide +kernel)⟩
abbrev mdX11_night : MD := (yX11_night, cX11_night, 3, (some .int))
theorem mwX11_night : MWV mdX11_night 2 := ⟨⟨gtb_of 628 (by decide +kernel) (by decide +kernel), gtb_of 10 (by decide +kernel) (by decide +kernel), ⟨by decide +kernel, by decide +kernel⟩, by decide +kernel⟩, gtb_of 626 (by decide +kernel) (by decide +kernel), gtb_of 627 (by decide +kernel) (by decide +kernel)⟩
abbrev mdX11_one : MD := (yX11_one, cX11_one, 3, (some .int))
theorem mwX11_one : MWV mdX11_one 2 := ⟨⟨gtb_of 671 (by decide +kernel) (by decide +kernel), gtb_of 10 (by decide +kernel) (by decide +kernel), ⟨by decide +kernel, by decide +kernel⟩, by decide +kernel⟩, gtb_of 669 (by decide +kernel) (by decide +kernel), gtb_of 670 (by decide +kernel) (by decide +kernel)⟩
abbrev mdX11_nights : MD := (yX11_nights, cX11_nights, 5, (some .int))
theorem mwX11_nights : MWV mdX11_nights 2 := ⟨⟨gtb_of 676 (by decide +kernel) (by decide +kernel), gtb_of 10 (by decide +kernel) (by decide +kernel), ⟨by decide +kernel, by decide +kernel⟩, by decide +kernel⟩, gtb_of 674 (by decide +kernel) (by decide +kernel), gtb_of 675 (by decide +kernel) (by decide +kernel)⟩
abbrev mdX11_within : MD := (yX11_within, cX11_within, 3, (some .boolean))
theorem mwX11_within : MWS mdX11_within 3 := ⟨⟨gtb_of 63 (by decide +kernel) (by decide +kernel), gtb_of 10 (by decide +kernel) (by decide +kernel), ⟨by decide +kernel, by decide +kernel⟩, by decide +kernel⟩, gtb_of 62 (by decide +kernel) (by decide +kernel)⟩
abbrev mdX11_at : MD := (yX11_at, cX11_at, 2, (some .int))
theorem mwX11_at : MWS mdX11_at 2 := ⟨⟨gtb_of 379 (by decide +kernel) (by decide +kernel), gtb_of 10 (by decide +kernel) (by decide +kernel), ⟨by decide +kernel, by decide +kernel⟩, by decide +kernel⟩, gtb_of 378 (by decide +kernel) (by decide +kernel)⟩
abbrev mdX11_put : MD := (yX11_put, cX11_put, 3, none)
theorem mwX11_put : MWS mdX11_put 3 := ⟨⟨gtb_of 312 (by decide +kernel) (by decide +kernel), gtb_of 10 (by decide +kernel) (by decide +kernel), ⟨by decide +kernel, by decide +kernel⟩, by decide +kernel⟩, gtb_of 311 (by decide +kernel) (by decide +kernel)⟩
abbrev mdX11_copyRow : MD := (yX11_copyRow, cX11_copyRow, 3, none)
theorem mwX11_copyRow : MWS mdX11_copyRow 2 := ⟨⟨gtb_of 511 (by decide +kernel) (by decide +kernel), gtb_of 10 (by decide +kernel) (by decide +kernel), ⟨by decide +kernel, by decide +kernel⟩, by decide +kernel⟩, gtb_of 510 (by decide +kernel) (by decide +kernel)⟩
abbrev mdL_cell : MD := (yL_cell, cL_cell, 2, (some .int))
theorem mwL_cell : MWS mdL_cell 2 := ⟨⟨gtb_of 679 (by decide +kernel) (by decide +kernel), gtb_of 9 (by decide +kernel) (by decide +kernel), ⟨by decide +kernel, by decide +kernel⟩, by decide +kernel⟩, gtb_of 678 (by decide +kernel) (by decide +kernel)⟩
abbrev mdL_low : MD := (yL_low, cL_low, 2, (some .int))
theorem mwL_low : MWS mdL_low 2 := ⟨⟨gtb_of 683 (by decide +kernel) (by decide +kernel), gtb_of 9 (by decide +kernel) (by decide +kernel), ⟨by decide +kernel, by decide +kernel⟩, by decide +kernel⟩, gtb_of 682 (by decide +kernel) (by decide +kernel)⟩
abbrev mdL_item : MD := (yL_item, cL_item, 8, (some .int))
theorem mwL_item : MWS mdL_item 5 := ⟨⟨gtb_of 697 (by decide +kernel) (by decide +kernel), gtb_of 9 (by decide +kernel) (by decide +kernel), ⟨by decide +kernel, by decide +kernel⟩, by decide +kernel⟩, gtb_of 696 (by decide +kernel) (by decide +kernel)⟩
abbrev mdL_draws : MD := (yL_draws, cL_draws, 5, none)
theorem mwL_draws : MWS mdL_draws 2 := ⟨⟨gtb_of 687 (by decide +kernel) (by decide +kernel), gtb_of 9 (by decide +kernel) (by decide +kernel), ⟨by decide +kernel, by decide +kernel⟩, by decide +kernel⟩, gtb_of 686 (by decide +kernel) (by decide +kernel)⟩
abbrev mdL_lays : MD := (yL_lays, cL_lays, 4, (some .int))
theorem mwL_lays : MWS mdL_lays 2 := ⟨⟨gtb_of 690 (by decide +kernel) (by decide +kernel), gtb_of 9 (by decide +kernel) (by decide +kernel), ⟨by decide +kernel, by decide +kernel⟩, by decide +kernel⟩, gtb_of 689 (by decide +kernel) (by decide +kernel)⟩
abbrev mdL_people : MD := (yL_people, cL_people, 3, (some .int))
theorem mwL_people : MWS mdL_people 1 := ⟨⟨gtb_of 753 (by decide +kernel) (by decide +kernel), gtb_of 9 (by decide +kernel) (by decide +kernel), ⟨by decide +kernel, by decide +kernel⟩, by decide +kernel⟩, gtb_of 752 (by decide +kernel) (by decide +kernel)⟩
theorem lkL_62 : LK RL 62 yX11_init := Or.inl (gtb_of 25 (by decide +kernel) (by decide +kernel))
theorem lkX11_18 : LK RX11 18 yX4_init := Or.inl (gtb_of 49 (by decide +kernel) (by decide +kernel))
theorem lkX4_36 : LK RX4 36 yX4_clear := Or.inl (gtb_of 53 (by decide +kernel) (by decide +kernel))
theorem lkX4_52 : LK RX4 52 yX4_setPain := Or.inl (gtb_of 57 (by decide +kernel) (by decide +kernel))
theorem lkX11_42 : LK RX11 42 yX6_init := Or.inl (gtb_of 183 (by decide +kernel) (by decide +kernel))
theorem lkX11_57 : LK RX11 57 yX8_init := Or.inl (gtb_of 202 (by decide +kernel) (by decide +kernel))
theorem lkX11_66 : LK RX11 66 yX0_init := Or.inl (gtb_of 219 (by decide +kernel) (by decide +kernel))
theorem lkX0_27 : LK RX0 27 yX8_init := Or.inl (gtb_of 226 (by decide +kernel) (by decide +kernel))
theorem lkX11_80 : LK RX11 80 yX2_init := Or.inl (gtb_of 270 (by decide +kernel) (by decide +kernel))
theorem lkX11_89 : LK RX11 89 yX5_init := Or.inl (gtb_of 283 (by decide +kernel) (by decide +kernel))
theorem lkX11_94 : LK RX11 94 yX4_addSort := Or.inl (gtb_of 306 (by decide +kernel) (by decide +kernel))
theorem lkX11_98 : LK RX11 98 yX4_addAsk := Or.inl (gtb_of 313 (by decide +kernel) (by decide +kernel))
theorem lkL_75 : LK RL 75 yX11_does := Or.inl (gtb_of 360 (by decide +kernel) (by decide +kernel))
theorem lkX11_148 : LK RX11 148 yX4_hasSort := Or.inl (gtb_of 364 (by decide +kernel) (by decide +kernel))
theorem lkX11_152 : LK RX11 152 yX4_hasAsk := Or.inl (gtb_of 368 (by decide +kernel) (by decide +kernel))
theorem lkX11_101 : LK RX11 101 yX11_within := Or.inl (gtb_of 372 (by decide +kernel) (by decide +kernel))
theorem lkX11_155 : LK RX11 155 yX4_feeling := Or.inl (gtb_of 373 (by decide +kernel) (by decide +kernel))
theorem lkX4_85 : LK RX4 85 yX4_tenths := Or.inl (gtb_of 380 (by decide +kernel) (by decide +kernel))
theorem lkX11_159 : LK RX11 159 yX4_playing := Or.inl (gtb_of 383 (by decide +kernel) (by decide +kernel))
theorem lkX11_162 : LK RX11 162 yX4_doing := Or.inl (gtb_of 387 (by decide +kernel) (by decide +kernel))
theorem lkX4_88 : LK RX4 88 yX4_feeling := Or.inl (gtb_of 391 (by decide +kernel) (by decide +kernel))
theorem lkX4_92 : LK RX4 92 yX4_playing := Or.inl (gtb_of 392 (by decide +kernel) (by decide +kernel))
theorem lkX4_95 : LK RX4 95 yX4_doing_ := Or.inl (gtb_of 393 (by decide +kernel) (by decide +kernel))
theorem lkL_96 : LK RL 96 yX11_step := Or.inl (gtb_of 396 (by decide +kernel) (by decide +kernel))
theorem lkX11_165 : LK RX11 165 yX7_add := Or.inl (gtb_of 400 (by decide +kernel) (by decide +kernel))
theorem lkL_91 : LK RL 91 yX11_noRow := Or.inl (gtb_of 405 (by decide +kernel) (by decide +kernel))
theorem lkL_94 : LK RL 94 yX11_left := Or.inl (gtb_of 409 (by decide +kernel) (by decide +kernel))
theorem lkX11_169 : LK RX11 169 yX8_pass := Or.inl (gtb_of 413 (by decide +kernel) (by decide +kernel))
theorem lkX8_28 : LK RX8 28 yX4_size := Or.inl (gtb_of 417 (by decide +kernel) (by decide +kernel))
theorem lkX8_38 : LK RX8 38 yX7_ask := Or.inl (gtb_of 422 (by decide +kernel) (by decide +kernel))
theorem lkX8_41 : LK RX8 41 yX4_doing := Or.inl (gtb_of 427 (by decide +kernel) (by decide +kernel))
theorem lkX8_45 : LK RX8 45 yX7_keepsDoers := Or.inl (gtb_of 428 (by decide +kernel) (by decide +kernel))
theorem lkX11_172 : LK RX11 172 yX8_together := Or.inl (gtb_of 433 (by decide +kernel) (by decide +kernel))
theorem lkX8_51 : LK RX8 51 yX8_remaining := Or.inl (gtb_of 437 (by decide +kernel) (by decide +kernel))
theorem lkX11_176 : LK RX11 176 yX8_remaining := Or.inl (gtb_of 441 (by decide +kernel) (by decide +kernel))
theorem lkL_99 : LK RL 99 yX11_share := Or.inl (gtb_of 442 (by decide +kernel) (by decide +kernel))
theorem lkL_88 : LK RL 88 yX11_bent := Or.inl (gtb_of 447 (by decide +kernel) (by decide +kernel))
theorem lkX11_182 : LK RX11 182 yX4_meanBent := Or.inl (gtb_of 451 (by decide +kernel) (by decide +kernel))
theorem lkX4_78 : LK RX4 78 yX4_size := Or.inl (gtb_of 455 (by decide +kernel) (by decide +kernel))
theorem lkX4_82 : LK RX4 82 yX4_bentOf := Or.inl (gtb_of 456 (by decide +kernel) (by decide +kernel))
theorem lkX11_186 : LK RX11 186 yX8_meanBent := Or.inl (gtb_of 460 (by decide +kernel) (by decide +kernel))
theorem lkX8_55 : LK RX8 55 yX4_bentOf := Or.inl (gtb_of 464 (by decide +kernel) (by decide +kernel))
theorem lkX8_58 : LK RX8 58 yX8_together := Or.inl (gtb_of 465 (by decide +kernel) (by decide +kernel))
theorem lkL_105 : LK RL 105 yX11_odds := Or.inl (gtb_of 467 (by decide +kernel) (by decide +kernel))
theorem lkX11_187 : LK RX11 187 yX8_chance := Or.inl (gtb_of 471 (by decide +kernel) (by decide +kernel))
theorem lkX8_64 : LK RX8 64 yX8_partOne := Or.inl (gtb_of 475 (by decide +kernel) (by decide +kernel))
theorem lkL_102 : LK RL 102 yX11_best := Or.inl (gtb_of 482 (by decide +kernel) (by decide +kernel))
theorem lkX11_191 : LK RX11 191 yX0_choose := Or.inl (gtb_of 486 (by decide +kernel) (by decide +kernel))
theorem lkX0_60 : LK RX0 60 yX0_tryRow := Or.inl (gtb_of 490 (by decide +kernel) (by decide +kernel))
theorem lkX0_69 : LK RX0 69 yX7_add := Or.inl (gtb_of 494 (by decide +kernel) (by decide +kernel))
theorem lkX0_73 : LK RX0 73 yX4_length := Or.inl (gtb_of 495 (by decide +kernel) (by decide +kernel))
theorem lkX0_63 : LK RX0 63 yX0_weigh := Or.inl (gtb_of 499 (by decide +kernel) (by decide +kernel))
theorem lkX0_75 : LK RX0 75 yX8_pass := Or.inl (gtb_of 503 (by decide +kernel) (by decide +kernel))
theorem lkX0_79 : LK RX0 79 yX8_chance := Or.inl (gtb_of 504 (by decide +kernel) (by decide +kernel))
theorem lkX0_81 : LK RX0 81 yX7_copy := Or.inl (gtb_of 505 (by decide +kernel) (by decide +kernel))
theorem lkX11_271 : LK RX11 271 yX11_at := Or.inl (gtb_of 512 (by decide +kernel) (by decide +kernel))
theorem lkX11_197 : LK RX11 197 yX0_number := Or.inl (gtb_of 513 (by decide +kernel) (by decide +kernel))
theorem lkX0_38 : LK RX0 38 yX7_ask := Or.inl (gtb_of 517 (by decide +kernel) (by decide +kernel))
theorem lkX0_42 : LK RX0 42 yX7_keepsDoers := Or.inl (gtb_of 518 (by decide +kernel) (by decide +kernel))
theorem lkL_85 : LK RL 85 yX11_words := Or.inl (gtb_of 519 (by decide +kernel) (by decide +kernel))
theorem lkX11_207 : LK RX11 207 yX2_added := Or.inl (gtb_of 523 (by decide +kernel) (by decide +kernel))
theorem lkX2_25 : LK RX2 25 yX4_size := Or.inl (gtb_of 527 (by decide +kernel) (by decide +kernel))
theorem lkX2_42 : LK RX2 42 yX2_gain := Or.inl (gtb_of 528 (by decide +kernel) (by decide +kernel))
theorem lkX2_33 : LK RX2 33 yX4_doing := Or.inl (gtb_of 532 (by decide +kernel) (by decide +kernel))
theorem lkL_82 : LK RL 82 yX11_harm := Or.inl (gtb_of 533 (by decide +kernel) (by decide +kernel))
theorem lkX11_210 : LK RX11 210 yX2_mostHarmed := Or.inl (gtb_of 537 (by decide +kernel) (by decide +kernel))
theorem lkX11_213 : LK RX11 213 yX2_gain := Or.inl (gtb_of 541 (by decide +kernel) (by decide +kernel))
theorem lkL_108 : LK RL 108 yX11_people := Or.inl (gtb_of 542 (by decide +kernel) (by decide +kernel))
theorem lkX11_219 : LK RX11 219 yX2_weighPeople := Or.inl (gtb_of 547 (by decide +kernel) (by decide +kernel))
theorem lkX2_36 : LK RX2 36 yX3_set := Or.inl (gtb_of 552 (by decide +kernel) (by decide +kernel))
theorem lkX3_9 : LK RX3 9 yX3_commonDivisor := Or.inl (gtb_of 556 (by decide +kernel) (by decide +kernel))
theorem lkX11_204 : LK RX11 204 yX3_part := Or.inl (gtb_of 559 (by decide +kernel) (by decide +kernel))
theorem lkL_113 : LK RL 113 yX11_tells := Or.inl (gtb_of 564 (by decide +kernel) (by decide +kernel))
theorem lkX11_223 : LK RX11 223 yX2_mostTelling := Or.inl (gtb_of 568 (by decide +kernel) (by decide +kernel))
theorem lkX2_57 : LK RX2 57 yX2_weighPeople := Or.inl (gtb_of 572 (by decide +kernel) (by decide +kernel))
theorem lkL_78 : LK RL 78 yX11_relief := Or.inl (gtb_of 576 (by decide +kernel) (by decide +kernel))
theorem lkX11_226 : LK RX11 226 yX2_eased := Or.inl (gtb_of 580 (by decide +kernel) (by decide +kernel))
theorem lkX2_29 : LK RX2 29 yX4_feeling := Or.inl (gtb_of 584 (by decide +kernel) (by decide +kernel))
theorem lkX11_229 : LK RX11 229 yX4_easedBySugar := Or.inl (gtb_of 585 (by decide +kernel) (by decide +kernel))
theorem lkL_130 : LK RL 130 yX11_tell := Or.inl (gtb_of 589 (by decide +kernel) (by decide +kernel))
theorem lkX11_232 : LK RX11 232 yX10_add := Or.inl (gtb_of 593 (by decide +kernel) (by decide +kernel))
theorem lkL_133 : LK RL 133 yX11_forget := Or.inl (gtb_of 598 (by decide +kernel) (by decide +kernel))
theorem lkL_125 : LK RL 125 yX11_man := Or.inl (gtb_of 602 (by decide +kernel) (by decide +kernel))
theorem lkX11_237 : LK RX11 237 yX10_withHim := Or.inl (gtb_of 606 (by decide +kernel) (by decide +kernel))
theorem lkX10_36 : LK RX10 36 yX10_doesTenths := Or.inl (gtb_of 612 (by decide +kernel) (by decide +kernel))
theorem lkX10_50 : LK RX10 50 yX4_doing := Or.inl (gtb_of 616 (by decide +kernel) (by decide +kernel))
theorem lkX10_44 : LK RX10 44 yX10_likely := Or.inl (gtb_of 617 (by decide +kernel) (by decide +kernel))
theorem lkX11_241 : LK RX11 241 yX10_withoutHim := Or.inl (gtb_of 620 (by decide +kernel) (by decide +kernel))
theorem lkX11_244 : LK RX11 244 yX3_set := Or.inl (gtb_of 624 (by decide +kernel) (by decide +kernel))
theorem lkL_116 : LK RL 116 yX11_night := Or.inl (gtb_of 625 (by decide +kernel) (by decide +kernel))
theorem lkX11_248 : LK RX11 248 yX5_play := Or.inl (gtb_of 629 (by decide +kernel) (by decide +kernel))
theorem lkX5_43 : LK RX5 43 yX5_ask := Or.inl (gtb_of 635 (by decide +kernel) (by decide +kernel))
theorem lkX5_47 : LK RX5 47 yX7_ask := Or.inl (gtb_of 639 (by decide +kernel) (by decide +kernel))
theorem lkX5_50 : LK RX5 50 yX5_person := Or.inl (gtb_of 640 (by decide +kernel) (by decide +kernel))
theorem lkX5_53 : LK RX5 53 yX5_playedAt := Or.inl (gtb_of 644 (by decide +kernel) (by decide +kernel))
theorem lkX5_60 : LK RX5 60 yX4_feeling := Or.inl (gtb_of 648 (by decide +kernel) (by decide +kernel))
theorem lkX5_64 : LK RX5 64 yX4_playing := Or.inl (gtb_of 649 (by decide +kernel) (by decide +kernel))
theorem lkX5_67 : LK RX5 67 yX4_tenths := Or.inl (gtb_of 650 (by decide +kernel) (by decide +kernel))
theorem lkX5_70 : LK RX5 70 yX4_doing_ := Or.inl (gtb_of 651 (by decide +kernel) (by decide +kernel))
theorem lkX5_74 : LK RX5 74 yX4_size := Or.inl (gtb_of 652 (by decide +kernel) (by decide +kernel))
theorem lkX5_78 : LK RX5 78 yX5_draw := Or.inl (gtb_of 654 (by decide +kernel) (by decide +kernel))
theorem lkX5_82 : LK RX5 82 yX7_keepsDoers := Or.inl (gtb_of 659 (by decide +kernel) (by decide +kernel))
theorem lkX5_85 : LK RX5 85 yX5_keepOrSend := Or.inl (gtb_of 660 (by decide +kernel) (by decide +kernel))
theorem lkX11_255 : LK RX11 255 yX5_players := Or.inl (gtb_of 664 (by decide +kernel) (by decide +kernel))
theorem lkL_119 : LK RL 119 yX11_one := Or.inl (gtb_of 668 (by decide +kernel) (by decide +kernel))
theorem lkX11_261 : LK RX11 261 yX5_person := Or.inl (gtb_of 672 (by decide +kernel) (by decide +kernel))
theorem lkL_122 : LK RL 122 yX11_nights := Or.inl (gtb_of 673 (by decide +kernel) (by decide +kernel))
theorem lkL_19 : LK RL 19 yL_cell := Or.inl (gtb_of 677 (by decide +kernel) (by decide +kernel))
theorem lkL_25 : LK RL 25 yL_low := Or.inl (gtb_of 681 (by decide +kernel) (by decide +kernel))
theorem lkL_63 : LK RL 63 yL_draws := Or.inl (gtb_of 685 (by decide +kernel) (by decide +kernel))
theorem lkL_71 : LK RL 71 yL_lays := Or.inl (gtb_of 688 (by decide +kernel) (by decide +kernel))
theorem lkL_29 : LK RL 29 yX11_wipe := Or.inl (gtb_of 691 (by decide +kernel) (by decide +kernel))
theorem lkL_33 : LK RL 33 yL_item := Or.inl (gtb_of 695 (by decide +kernel) (by decide +kernel))
theorem lkL_9 : LK RL 9 yX11_write := Or.inl (gtb_of 698 (by decide +kernel) (by decide +kernel))
theorem lkX11_109 : LK RX11 109 yX9_add := Or.inl (gtb_of 702 (by decide +kernel) (by decide +kernel))
theorem lkL_37 : LK RL 37 yX11_lay := Or.inl (gtb_of 708 (by decide +kernel) (by decide +kernel))
theorem lkX11_113 : LK RX11 113 yX6_read := Or.inl (gtb_of 712 (by decide +kernel) (by decide +kernel))
theorem lkX6_23 : LK RX6 23 yX4_clear := Or.inl (gtb_of 716 (by decide +kernel) (by decide +kernel))
theorem lkX6_37 : LK RX6 37 yX6_readNumbers := Or.inl (gtb_of 717 (by decide +kernel) (by decide +kernel))
theorem lkX6_41 : LK RX6 41 yX9_byteAt := Or.inl (gtb_of 721 (by decide +kernel) (by decide +kernel))
theorem lkX6_45 : LK RX6 45 yX6_take := Or.inl (gtb_of 726 (by decide +kernel) (by decide +kernel))
theorem lkX6_60 : LK RX6 60 yX4_addSort := Or.inl (gtb_of 731 (by decide +kernel) (by decide +kernel))
theorem lkX6_64 : LK RX6 64 yX4_addAsk := Or.inl (gtb_of 732 (by decide +kernel) (by decide +kernel))
theorem lkX6_67 : LK RX6 67 yX4_hasAsk := Or.inl (gtb_of 733 (by decide +kernel) (by decide +kernel))
theorem lkX6_74 : LK RX6 74 yX7_add := Or.inl (gtb_of 735 (by decide +kernel) (by decide +kernel))
theorem lkX6_78 : LK RX6 78 yX4_setMan := Or.inl (gtb_of 736 (by decide +kernel) (by decide +kernel))
theorem lkX6_81 : LK RX6 81 yX4_setPain := Or.inl (gtb_of 740 (by decide +kernel) (by decide +kernel))
theorem lkX11_123 : LK RX11 123 yX4_copy := Or.inl (gtb_of 741 (by decide +kernel) (by decide +kernel))
theorem lkX11_129 : LK RX11 129 yX7_copy := Or.inl (gtb_of 746 (by decide +kernel) (by decide +kernel))
theorem lkX11_142 : LK RX11 142 yX0_renew := Or.inl (gtb_of 747 (by decide +kernel) (by decide +kernel))
theorem lkL_67 : LK RL 67 yL_people := Or.inl (gtb_of 751 (by decide +kernel) (by decide +kernel))
theorem lkX11_9 : LK RX11 9 yX9_init := Or.inr ⟨"StageSieve", ntb_of 33 (by decide +kernel) (by decide +kernel)⟩
theorem lkX4_66 : LK RX4 66 yX11_within := Or.inr ⟨"StageSieve", ntb_of 61 (by decide +kernel) (by decide +kernel)⟩
theorem lkX11_25 : LK RX11 25 yX1_init := Or.inr ⟨"StageSieve", ntb_of 122 (by decide +kernel) (by decide +kernel)⟩
theorem lkX1_9 : LK RX1 9 yX7_init := Or.inr ⟨"StageSieve", ntb_of 128 (by decide +kernel) (by decide +kernel)⟩
theorem lkX1_18 : LK RX1 18 yX10_init := Or.inr ⟨"StageSieve", ntb_of 149 (by decide +kernel) (by decide +kernel)⟩
theorem lkX11_35 : LK RX11 35 yX7_init := Or.inr ⟨"StageSieve", ntb_of 180 (by decide +kernel) (by decide +kernel)⟩
theorem lkX0_11 : LK RX0 11 yX7_init := Or.inr ⟨"StageSieve", ntb_of 224 (by decide +kernel) (by decide +kernel)⟩
theorem lkX11_73 : LK RX11 73 yX3_init := Or.inr ⟨"StageSieve", ntb_of 255 (by decide +kernel) (by decide +kernel)⟩
theorem lkX4_70 : LK RX4 70 yX11_put := Or.inr ⟨"StageSieve", ntb_of 310 (by decide +kernel) (by decide +kernel)⟩
theorem lkX4_74 : LK RX4 74 yX11_at := Or.inr ⟨"StageSieve", ntb_of 377 (by decide +kernel) (by decide +kernel)⟩
theorem lkX7_22 : LK RX7 22 yX11_put := Or.inr ⟨"StageSieve", ntb_of 404 (by decide +kernel) (by decide +kernel)⟩
theorem lkX7_30 : LK RX7 30 yX11_at := Or.inr ⟨"StageSieve", ntb_of 426 (by decide +kernel) (by decide +kernel)⟩
theorem lkX7_26 : LK RX7 26 yX11_copyRow := Or.inr ⟨"StageSieve", ntb_of 509 (by decide +kernel) (by decide +kernel)⟩
theorem lkX10_28 : LK RX10 28 yX11_put := Or.inr ⟨"StageSieve", ntb_of 597 (by decide +kernel) (by decide +kernel)⟩
theorem lkX10_40 : LK RX10 40 yX11_at := Or.inr ⟨"StageSieve", ntb_of 610 (by decide +kernel) (by decide +kernel)⟩
theorem lkX6_52 : LK RX6 52 yX11_put := Or.inr ⟨"StageSieve", ntb_of 725 (by decide +kernel) (by decide +kernel)⟩
theorem lkX6_56 : LK RX6 56 yX11_at := Or.inr ⟨"StageSieve", ntb_of 730 (by decide +kernel) (by decide +kernel)⟩
theorem lkX6_70 : LK RX6 70 yX11_within := Or.inr ⟨"StageSieve", ntb_of 734 (by decide +kernel) (by decide +kernel)⟩
theorem lkX4_56 : LK RX4 56 yX11_copyRow := Or.inr ⟨"StageSieve", ntb_of 745 (by decide +kernel) (by decide +kernel)⟩
theorem fiX9_9 : FI RX9 9 9 0 2 true := ⟨RX9, TX9, 2, tyX9, rfl, by decide, ugX9, tyX9_ok, nmX9, rfl, rfl, fun h => absurd h (by decide), fun h => absurd h (by decide), rfl, rfl, Or.inl (gtb_of 37 (by decide +kernel) (by decide +kernel))⟩
theorem fiX9_15 : FI RX9 15 9 1 0 false := ⟨RX9, TX9, 2, tyX9, rfl, by decide, ugX9, tyX9_ok, nmX9, rfl, rfl, fun _ => rfl, fun h => absurd h (by decide), rfl, rfl, Or.inl (gtb_of 38 (by decide +kernel) (by decide +kernel))⟩
theorem fiX4_9 : FI RX4 9 4 0 2 true := ⟨RX4, TX4, 14, tyX4, rfl, by decide, ugX4, tyX4_ok, nmX4, rfl, rfl, fun h => absurd h (by decide), fun h => absurd h (by decide), rfl, rfl, Or.inl (gtb_of 64 (by decide +kernel) (by decide +kernel))⟩
theorem fiX4_15 : FI RX4 15 4 1 2 true := ⟨RX4, TX4, 14, tyX4, rfl, by decide, ugX4, tyX4_ok, nmX4, rfl, rfl, fun h => absurd h (by decide), fun h => absurd h (by decide), rfl, rfl, Or.inl (gtb_of 65 (by decide +kernel) (by decide +kernel))⟩
theorem fiX4_18 : FI RX4 18 4 2 2 true := ⟨RX4, TX4, 14, tyX4, rfl, by decide, ugX4, tyX4_ok, nmX4, rfl, rfl, fun h => absurd h (by decide), fun h => absurd h (by decide), rfl, rfl, Or.inl (gtb_of 66 (by decide +kernel) (by decide +kernel))⟩
theorem fiX4_21 : FI RX4 21 4 3 2 true := ⟨RX4, TX4, 14, tyX4, rfl, by decide, ugX4, tyX4_ok, nmX4, rfl, rfl, fun h => absurd h (by decide), fun h => absurd h (by decide), rfl, rfl, Or.inl (gtb_of 67 (by decide +kernel) (by decide +kernel))⟩
theorem fiX4_24 : FI RX4 24 4 4 2 true := ⟨RX4, TX4, 14, tyX4, rfl, by decide, ugX4, tyX4_ok, nmX4, rfl, rfl, fun h => absurd h (by decide), fun h => absurd h (by decide), rfl, rfl, Or.inl (gtb_of 68 (by decide +kernel) (by decide +kernel))⟩
theorem fiX4_27 : FI RX4 27 4 5 2 true := ⟨RX4, TX4, 14, tyX4, rfl, by decide, ugX4, tyX4_ok, nmX4, rfl, rfl, fun h => absurd h (by decide), fun h => absurd h (by decide), rfl, rfl, Or.inl (gtb_of 69 (by decide +kernel) (by decide +kernel))⟩
theorem fiX4_30 : FI RX4 30 4 6 2 true := ⟨RX4, TX4, 14, tyX4, rfl, by decide, ugX4, tyX4_ok, nmX4, rfl, rfl, fun h => absurd h (by decide), fun h => absurd h (by decide), rfl, rfl, Or.inl (gtb_of 70 (by decide +kernel) (by decide +kernel))⟩
theorem fiX4_33 : FI RX4 33 4 7 2 true := ⟨RX4, TX4, 14, tyX4, rfl, by decide, ugX4, tyX4_ok, nmX4, rfl, rfl, fun h => absurd h (by decide), fun h => absurd h (by decide), rfl, rfl, Or.inl (gtb_of 71 (by decide +kernel) (by decide +kernel))⟩
theorem fiX4_39 : FI RX4 39 4 8 0 false := ⟨RX4, TX4, 14, tyX4, rfl, by decide, ugX4, tyX4_ok, nmX4, rfl, rfl, fun _ => rfl, fun h => absurd h (by decide), rfl, rfl, Or.inl (gtb_of 72 (by decide +kernel) (by decide +kernel))⟩
theorem fiX4_43 : FI RX4 43 4 9 0 false := ⟨RX4, TX4, 14, tyX4, rfl, by decide, ugX4, tyX4_ok, nmX4, rfl, rfl, fun _ => rfl, fun h => absurd h (by decide), rfl, rfl, Or.inl (gtb_of 77 (by decide +kernel) (by decide +kernel))⟩
theorem fiX4_46 : FI RX4 46 4 10 0 false := ⟨RX4, TX4, 14, tyX4, rfl, by decide, ugX4, tyX4_ok, nmX4, rfl, rfl, fun _ => rfl, fun h => absurd h (by decide), rfl, rfl, Or.inl (gtb_of 81 (by decide +kernel) (by decide +kernel))⟩
theorem fiX4_49 : FI RX4 49 4 11 0 false := ⟨RX4, TX4, 14, tyX4, rfl, by decide, ugX4, tyX4_ok, nmX4, rfl, rfl, fun _ => rfl, fun h => absurd h (by decide), rfl, rfl, Or.inl (gtb_of 85 (by decide +kernel) (by decide +kernel))⟩
theorem fiX4_60 : FI RX4 60 4 12 0 false := ⟨RX4, TX4, 14, tyX4, rfl, by decide, ugX4, tyX4_ok, nmX4, rfl, rfl, fun _ => rfl, fun h => absurd h (by decide), rfl, rfl, Or.inl (gtb_of 87 (by decide +kernel) (by decide +kernel))⟩
theorem fiX4_63 : FI RX4 63 4 13 0 false := ⟨RX4, TX4, 14, tyX4, rfl, by decide, ugX4, tyX4_ok, nmX4, rfl, rfl, fun _ => rfl, fun h => absurd h (by decide), rfl, rfl, Or.inl (gtb_of 89 (by decide +kernel) (by decide +kernel))⟩
theorem fiX7_9 : FI RX7 9 7 0 2 true := ⟨RX7, TX7, 3, tyX7, rfl, by decide, ugX7, tyX7_ok, nmX7, rfl, rfl, fun h => absurd h (by decide), fun h => absurd h (by decide), rfl, rfl, Or.inl (gtb_of 132 (by decide +kernel) (by decide +kernel))⟩
theorem fiX7_15 : FI RX7 15 7 1 2 true := ⟨RX7, TX7, 3, tyX7, rfl, by decide, ugX7, tyX7_ok, nmX7, rfl, rfl, fun h => absurd h (by decide), fun h => absurd h (by decide), rfl, rfl, Or.inl (gtb_of 133 (by decide +kernel) (by decide +kernel))⟩
theorem fiX7_18 : FI RX7 18 7 2 0 false := ⟨RX7, TX7, 3, tyX7, rfl, by decide, ugX7, tyX7_ok, nmX7, rfl, rfl, fun _ => rfl, fun h => absurd h (by decide), rfl, rfl, Or.inl (gtb_of 134 (by decide +kernel) (by decide +kernel))⟩
theorem fiX10_9 : FI RX10 9 10 0 2 true := ⟨RX10, TX10, 5, tyX10, rfl, by decide, ugX10, tyX10_ok, nmX10, rfl, rfl, fun h => absurd h (by decide), fun h => absurd h (by decide), rfl, rfl, Or.inl (gtb_of 153 (by decide +kernel) (by decide +kernel))⟩
theorem fiX10_15 : FI RX10 15 10 1 2 true := ⟨RX10, TX10, 5, tyX10, rfl, by decide, ugX10, tyX10_ok, nmX10, rfl, rfl, fun h => absurd h (by decide), fun h => absurd h (by decide), rfl, rfl, Or.inl (gtb_of 154 (by decide +kernel) (by decide +kernel))⟩
theorem fiX10_18 : FI RX10 18 10 2 2 true := ⟨RX10, TX10, 5, tyX10, rfl, by decide, ugX10, tyX10_ok, nmX10, rfl, rfl, fun h => absurd h (by decide), fun h => absurd h (by decide), rfl, rfl, Or.inl (gtb_of 155 (by decide +kernel) (by decide +kernel))⟩
theorem fiX10_21 : FI RX10 21 10 3 2 true := ⟨RX10, TX10, 5, tyX10, rfl, by decide, ugX10, tyX10_ok, nmX10, rfl, rfl, fun h => absurd h (by decide), fun h => absurd h (by decide), rfl, rfl, Or.inl (gtb_of 156 (by decide +kernel) (by decide +kernel))⟩
theorem fiX10_24 : FI RX10 24 10 4 0 false := ⟨RX10, TX10, 5, tyX10, rfl, by decide, ugX10, tyX10_ok, nmX10, rfl, rfl, fun _ => rfl, fun h => absurd h (by decide), rfl, rfl, Or.inl (gtb_of 157 (by decide +kernel) (by decide +kernel))⟩
theorem fiX1_10 : FI RX1 10 1 0 2 true := ⟨RX1, TX1, 2, tyX1, rfl, by decide, ugX1, tyX1_ok, nmX1, rfl, rfl, fun h => absurd h (by decide), fun h => absurd h (by decide), rfl, rfl, Or.inl (gtb_of 170 (by decide +kernel) (by decide +kernel))⟩
theorem fiX1_19 : FI RX1 19 1 1 2 true := ⟨RX1, TX1, 2, tyX1, rfl, by decide, ugX1, tyX1_ok, nmX1, rfl, rfl, fun h => absurd h (by decide), fun h => absurd h (by decide), rfl, rfl, Or.inl (gtb_of 172 (by decide +kernel) (by decide +kernel))⟩
theorem fiX6_15 : FI RX6 15 6 0 2 true := ⟨RX6, TX6, 4, tyX6, rfl, by decide, ugX6, tyX6_ok, nmX6, rfl, rfl, fun h => absurd h (by decide), fun h => absurd h (by decide), rfl, rfl, Or.inl (gtb_of 187 (by decide +kernel) (by decide +kernel))⟩
theorem fiX6_19 : FI RX6 19 6 1 2 true := ⟨RX6, TX6, 4, tyX6, rfl, by decide, ugX6, tyX6_ok, nmX6, rfl, rfl, fun h => absurd h (by decide), fun h => absurd h (by decide), rfl, rfl, Or.inl (gtb_of 188 (by decide +kernel) (by decide +kernel))⟩
theorem fiX6_9 : FI RX6 9 6 2 2 true := ⟨RX6, TX6, 4, tyX6, rfl, by decide, ugX6, tyX6_ok, nmX6, rfl, rfl, fun h => absurd h (by decide), fun h => absurd h (by decide), rfl, rfl, Or.inl (gtb_of 189 (by decide +kernel) (by decide +kernel))⟩
theorem fiX6_49 : FI RX6 49 6 3 0 false := ⟨RX6, TX6, 4, tyX6, rfl, by decide, ugX6, tyX6_ok, nmX6, rfl, rfl, fun _ => rfl, fun h => absurd h (by decide), rfl, rfl, Or.inl (gtb_of 190 (by decide +kernel) (by decide +kernel))⟩
theorem fiX8_18 : FI RX8 18 8 0 2 true := ⟨RX8, TX8, 3, tyX8, rfl, by decide, ugX8, tyX8_ok, nmX8, rfl, rfl, fun h => absurd h (by decide), fun h => absurd h (by decide), rfl, rfl, Or.inl (gtb_of 206 (by decide +kernel) (by decide +kernel))⟩
theorem fiX8_9 : FI RX8 9 8 1 2 true := ⟨RX8, TX8, 3, tyX8, rfl, by decide, ugX8, tyX8_ok, nmX8, rfl, rfl, fun h => absurd h (by decide), fun h => absurd h (by decide), rfl, rfl, Or.inl (gtb_of 207 (by decide +kernel) (by decide +kernel))⟩
theorem fiX8_15 : FI RX8 15 8 2 2 true := ⟨RX8, TX8, 3, tyX8, rfl, by decide, ugX8, tyX8_ok, nmX8, rfl, rfl, fun h => absurd h (by decide), fun h => absurd h (by decide), rfl, rfl, Or.inl (gtb_of 208 (by decide +kernel) (by decide +kernel))⟩
theorem fiX0_21 : FI RX0 21 0 0 2 true := ⟨RX0, TX0, 8, tyX0, rfl, by decide, ugX0, tyX0_ok, nmX0, rfl, rfl, fun h => absurd h (by decide), fun h => absurd h (by decide), rfl, rfl, Or.inl (gtb_of 227 (by decide +kernel) (by decide +kernel))⟩
theorem fiX0_30 : FI RX0 30 0 1 2 true := ⟨RX0, TX0, 8, tyX0, rfl, by decide, ugX0, tyX0_ok, nmX0, rfl, rfl, fun h => absurd h (by decide), fun h => absurd h (by decide), rfl, rfl, Or.inl (gtb_of 228 (by decide +kernel) (by decide +kernel))⟩
theorem fiX0_12 : FI RX0 12 0 2 2 true := ⟨RX0, TX0, 8, tyX0, rfl, by decide, ugX0, tyX0_ok, nmX0, rfl, rfl, fun h => absurd h (by decide), fun h => absurd h (by decide), rfl, rfl, Or.inl (gtb_of 229 (by decide +kernel) (by decide +kernel))⟩
theorem fiX0_18 : FI RX0 18 0 3 2 true := ⟨RX0, TX0, 8, tyX0, rfl, by decide, ugX0, tyX0_ok, nmX0, rfl, rfl, fun h => absurd h (by decide), fun h => absurd h (by decide), rfl, rfl, Or.inl (gtb_of 230 (by decide +kernel) (by decide +kernel))⟩
theorem fiX0_34 : FI RX0 34 0 4 0 false := ⟨RX0, TX0, 8, tyX0, rfl, by decide, ugX0, tyX0_ok, nmX0, rfl, rfl, fun _ => rfl, fun h => absurd h (by decide), rfl, rfl, Or.inl (gtb_of 231 (by decide +kernel) (by decide +kernel))⟩
theorem fiX0_46 : FI RX0 46 0 5 0 false := ⟨RX0, TX0, 8, tyX0, rfl, by decide, ugX0, tyX0_ok, nmX0, rfl, rfl, fun _ => rfl, fun h => absurd h (by decide), rfl, rfl, Or.inl (gtb_of 232 (by decide +kernel) (by decide +kernel))⟩
theorem fiX0_49 : FI RX0 49 0 6 0 false := ⟨RX0, TX0, 8, tyX0, rfl, by decide, ugX0, tyX0_ok, nmX0, rfl, rfl, fun _ => rfl, fun h => absurd h (by decide), rfl, rfl, Or.inl (gtb_of 233 (by decide +kernel) (by decide +kernel))⟩
theorem fiX0_52 : FI RX0 52 0 7 0 false := ⟨RX0, TX0, 8, tyX0, rfl, by decide, ugX0, tyX0_ok, nmX0, rfl, rfl, fun _ => rfl, fun h => absurd h (by decide), rfl, rfl, Or.inl (gtb_of 234 (by decide +kernel) (by decide +kernel))⟩
theorem fiX3_15 : FI RX3 15 3 0 1 false := ⟨RX3, TX3, 2, tyX3, rfl, by decide, ugX3, tyX3_ok, nmX3, rfl, rfl, fun h => absurd h (by decide), fun _ => rfl, rfl, rfl, Or.inl (gtb_of 259 (by decide +kernel) (by decide +kernel))⟩
theorem fiX3_19 : FI RX3 19 3 1 1 false := ⟨RX3, TX3, 2, tyX3, rfl, by decide, ugX3, tyX3_ok, nmX3, rfl, rfl, fun h => absurd h (by decide), fun _ => rfl, rfl, rfl, Or.inl (gtb_of 261 (by decide +kernel) (by decide +kernel))⟩
theorem fiX2_9 : FI RX2 9 2 0 2 true := ⟨RX2, TX2, 2, tyX2, rfl, by decide, ugX2, tyX2_ok, nmX2, rfl, rfl, fun h => absurd h (by decide), fun h => absurd h (by decide), rfl, rfl, Or.inl (gtb_of 274 (by decide +kernel) (by decide +kernel))⟩
theorem fiX2_15 : FI RX2 15 2 1 2 true := ⟨RX2, TX2, 2, tyX2, rfl, by decide, ugX2, tyX2_ok, nmX2, rfl, rfl, fun h => absurd h (by decide), fun h => absurd h (by decide), rfl, rfl, Or.inl (gtb_of 275 (by decide +kernel) (by decide +kernel))⟩
theorem fiX5_18 : FI RX5 18 5 0 2 true := ⟨RX5, TX5, 5, tyX5, rfl, by decide, ugX5, tyX5_ok, nmX5, rfl, rfl, fun h => absurd h (by decide), fun h => absurd h (by decide), rfl, rfl, Or.inl (gtb_of 287 (by decide +kernel) (by decide +kernel))⟩
theorem fiX5_9 : FI RX5 9 5 1 2 true := ⟨RX5, TX5, 5, tyX5, rfl, by decide, ugX5, tyX5_ok, nmX5, rfl, rfl, fun h => absurd h (by decide), fun h => absurd h (by decide), rfl, rfl, Or.inl (gtb_of 288 (by decide +kernel) (by decide +kernel))⟩
theorem fiX5_15 : FI RX5 15 5 2 2 true := ⟨RX5, TX5, 5, tyX5, rfl, by decide, ugX5, tyX5_ok, nmX5, rfl, rfl, fun h => absurd h (by decide), fun h => absurd h (by decide), rfl, rfl, Or.inl (gtb_of 289 (by decide +kernel) (by decide +kernel))⟩
theorem fiX5_28 : FI RX5 28 5 3 0 false := ⟨RX5, TX5, 5, tyX5, rfl, by decide, ugX5, tyX5_ok, nmX5, rfl, rfl, fun _ => rfl, fun h => absurd h (by decide), rfl, rfl, Or.inl (gtb_of 290 (by decide +kernel) (by decide +kernel))⟩
theorem fiX5_31 : FI RX5 31 5 4 0 false := ⟨RX5, TX5, 5, tyX5, rfl, by decide, ugX5, tyX5_ok, nmX5, rfl, rfl, fun _ => rfl, fun h => absurd h (by decide), rfl, rfl, Or.inl (gtb_of 292 (by decide +kernel) (by decide +kernel))⟩
theorem fiX11_10 : FI RX11 10 11 0 2 true := ⟨RX11, TX11, 14, tyX11, rfl, by decide, ugX11, tyX11_ok, nmX11, rfl, rfl, fun h => absurd h (by decide), fun h => absurd h (by decide), rfl, rfl, Or.inl (gtb_of 317 (by decide +kernel) (by decide +kernel))⟩
theorem fiX11_19 : FI RX11 19 11 1 2 true := ⟨RX11, TX11, 14, tyX11, rfl, by decide, ugX11, tyX11_ok, nmX11, rfl, rfl, fun h => absurd h (by decide), fun h => absurd h (by decide), rfl, rfl, Or.inl (gtb_of 318 (by decide +kernel) (by decide +kernel))⟩
theorem fiX11_26 : FI RX11 26 11 2 2 true := ⟨RX11, TX11, 14, tyX11, rfl, by decide, ugX11, tyX11_ok, nmX11, rfl, rfl, fun h => absurd h (by decide), fun h => absurd h (by decide), rfl, rfl, Or.inl (gtb_of 319 (by decide +kernel) (by decide +kernel))⟩
theorem fiX11_30 : FI RX11 30 11 3 2 true := ⟨RX11, TX11, 14, tyX11, rfl, by decide, ugX11, tyX11_ok, nmX11, rfl, rfl, fun h => absurd h (by decide), fun h => absurd h (by decide), rfl, rfl, Or.inl (gtb_of 320 (by decide +kernel) (by decide +kernel))⟩
theorem fiX11_36 : FI RX11 36 11 4 2 true := ⟨RX11, TX11, 14, tyX11, rfl, by decide, ugX11, tyX11_ok, nmX11, rfl, rfl, fun h => absurd h (by decide), fun h => absurd h (by decide), rfl, rfl, Or.inl (gtb_of 321 (by decide +kernel) (by decide +kernel))⟩
theorem fiX11_45 : FI RX11 45 11 5 2 true := ⟨RX11, TX11, 14, tyX11, rfl, by decide, ugX11, tyX11_ok, nmX11, rfl, rfl, fun h => absurd h (by decide), fun h => absurd h (by decide), rfl, rfl, Or.inl (gtb_of 322 (by decide +kernel) (by decide +kernel))⟩
theorem fiX11_49 : FI RX11 49 11 6 2 true := ⟨RX11, TX11, 14, tyX11, rfl, by decide, ugX11, tyX11_ok, nmX11, rfl, rfl, fun h => absurd h (by decide), fun h => absurd h (by decide), rfl, rfl, Or.inl (gtb_of 323 (by decide +kernel) (by decide +kernel))⟩
theorem fiX11_52 : FI RX11 52 11 7 2 true := ⟨RX11, TX11, 14, tyX11, rfl, by decide, ugX11, tyX11_ok, nmX11, rfl, rfl, fun h => absurd h (by decide), fun h => absurd h (by decide), rfl, rfl, Or.inl (gtb_of 324 (by decide +kernel) (by decide +kernel))⟩
theorem fiX11_60 : FI RX11 60 11 8 2 true := ⟨RX11, TX11, 14, tyX11, rfl, by decide, ugX11, tyX11_ok, nmX11, rfl, rfl, fun h => absurd h (by decide), fun h => absurd h (by decide), rfl, rfl, Or.inl (gtb_of 325 (by decide +kernel) (by decide +kernel))⟩
theorem fiX11_67 : FI RX11 67 11 9 2 true := ⟨RX11, TX11, 14, tyX11, rfl, by decide, ugX11, tyX11_ok, nmX11, rfl, rfl, fun h => absurd h (by decide), fun h => absurd h (by decide), rfl, rfl, Or.inl (gtb_of 326 (by decide +kernel) (by decide +kernel))⟩
theorem fiX11_74 : FI RX11 74 11 10 2 true := ⟨RX11, TX11, 14, tyX11, rfl, by decide, ugX11, tyX11_ok, nmX11, rfl, rfl, fun h => absurd h (by decide), fun h => absurd h (by decide), rfl, rfl, Or.inl (gtb_of 327 (by decide +kernel) (by decide +kernel))⟩
theorem fiX11_83 : FI RX11 83 11 11 2 true := ⟨RX11, TX11, 14, tyX11, rfl, by decide, ugX11, tyX11_ok, nmX11, rfl, rfl, fun h => absurd h (by decide), fun h => absurd h (by decide), rfl, rfl, Or.inl (gtb_of 328 (by decide +kernel) (by decide +kernel))⟩
theorem fiX11_90 : FI RX11 90 11 12 2 true := ⟨RX11, TX11, 14, tyX11, rfl, by decide, ugX11, tyX11_ok, nmX11, rfl, rfl, fun h => absurd h (by decide), fun h => absurd h (by decide), rfl, rfl, Or.inl (gtb_of 329 (by decide +kernel) (by decide +kernel))⟩
theorem fiX11_139 : FI RX11 139 11 13 0 false := ⟨RX11, TX11, 14, tyX11, rfl, by decide, ugX11, tyX11_ok, nmX11, rfl, rfl, fun _ => rfl, fun h => absurd h (by decide), rfl, rfl, Or.inl (gtb_of 330 (by decide +kernel) (by decide +kernel))⟩
theorem fiX11_105 : FI RX11 105 9 1 0 false := ⟨RX9, TX9, 2, tyX9, rfl, by decide, ugX9, tyX9_ok, nmX9, rfl, rfl, fun _ => rfl, fun h => absurd h (by decide), rfl, rfl, Or.inr ⟨"StageSieve", ntb_of 39 (by decide +kernel) (by decide +kernel)⟩⟩
theorem fiX6_34 : FI RX6 34 9 1 0 false := ⟨RX9, TX9, 2, tyX9, rfl, by decide, ugX9, tyX9_ok, nmX9, rfl, rfl, fun _ => rfl, fun h => absurd h (by decide), rfl, rfl, Or.inr ⟨"StageSieve", ntb_of 40 (by decide +kernel) (by decide +kernel)⟩⟩
theorem fiX8_22 : FI RX8 22 4 8 0 false := ⟨RX4, TX4, 14, tyX4, rfl, by decide, ugX4, tyX4_ok, nmX4, rfl, rfl, fun _ => rfl, fun h => absurd h (by decide), rfl, rfl, Or.inr ⟨"StageSieve", ntb_of 73 (by decide +kernel) (by decide +kernel)⟩⟩
theorem fiX5_57 : FI RX5 57 4 8 0 false := ⟨RX4, TX4, 14, tyX4, rfl, by decide, ugX4, tyX4_ok, nmX4, rfl, rfl, fun _ => rfl, fun h => absurd h (by decide), rfl, rfl, Or.inr ⟨"StageSieve", ntb_of 74 (by decide +kernel) (by decide +kernel)⟩⟩
theorem fiX2_19 : FI RX2 19 4 8 0 false := ⟨RX4, TX4, 14, tyX4, rfl, by decide, ugX4, tyX4_ok, nmX4, rfl, rfl, fun _ => rfl, fun h => absurd h (by decide), rfl, rfl, Or.inr ⟨"StageSieve", ntb_of 75 (by decide +kernel) (by decide +kernel)⟩⟩
theorem fiX11_117 : FI RX11 117 4 8 0 false := ⟨RX4, TX4, 14, tyX4, rfl, by decide, ugX4, tyX4_ok, nmX4, rfl, rfl, fun _ => rfl, fun h => absurd h (by decide), rfl, rfl, Or.inr ⟨"StageSieve", ntb_of 76 (by decide +kernel) (by decide +kernel)⟩⟩
theorem fiX0_55 : FI RX0 55 4 9 0 false := ⟨RX4, TX4, 14, tyX4, rfl, by decide, ugX4, tyX4_ok, nmX4, rfl, rfl, fun _ => rfl, fun h => absurd h (by decide), rfl, rfl, Or.inr ⟨"StageSieve", ntb_of 78 (by decide +kernel) (by decide +kernel)⟩⟩
theorem fiX11_120 : FI RX11 120 4 9 0 false := ⟨RX4, TX4, 14, tyX4, rfl, by decide, ugX4, tyX4_ok, nmX4, rfl, rfl, fun _ => rfl, fun h => absurd h (by decide), rfl, rfl, Or.inr ⟨"StageSieve", ntb_of 79 (by decide +kernel) (by decide +kernel)⟩⟩
theorem fiX2_49 : FI RX2 49 4 9 0 false := ⟨RX4, TX4, 14, tyX4, rfl, by decide, ugX4, tyX4_ok, nmX4, rfl, rfl, fun _ => rfl, fun h => absurd h (by decide), rfl, rfl, Or.inr ⟨"StageSieve", ntb_of 80 (by decide +kernel) (by decide +kernel)⟩⟩
theorem fiX5_22 : FI RX5 22 4 10 0 false := ⟨RX4, TX4, 14, tyX4, rfl, by decide, ugX4, tyX4_ok, nmX4, rfl, rfl, fun _ => rfl, fun h => absurd h (by decide), rfl, rfl, Or.inr ⟨"StageSieve", ntb_of 82 (by decide +kernel) (by decide +kernel)⟩⟩
theorem fiX11_145 : FI RX11 145 4 10 0 false := ⟨RX4, TX4, 14, tyX4, rfl, by decide, ugX4, tyX4_ok, nmX4, rfl, rfl, fun _ => rfl, fun h => absurd h (by decide), rfl, rfl, Or.inr ⟨"StageSieve", ntb_of 83 (by decide +kernel) (by decide +kernel)⟩⟩
theorem fiX2_54 : FI RX2 54 4 10 0 false := ⟨RX4, TX4, 14, tyX4, rfl, by decide, ugX4, tyX4_ok, nmX4, rfl, rfl, fun _ => rfl, fun h => absurd h (by decide), rfl, rfl, Or.inr ⟨"StageSieve", ntb_of 84 (by decide +kernel) (by decide +kernel)⟩⟩
theorem fiX11_234 : FI RX11 234 4 11 0 false := ⟨RX4, TX4, 14, tyX4, rfl, by decide, ugX4, tyX4_ok, nmX4, rfl, rfl, fun _ => rfl, fun h => absurd h (by decide), rfl, rfl, Or.inr ⟨"StageSieve", ntb_of 86 (by decide +kernel) (by decide +kernel)⟩⟩
theorem fiX2_46 : FI RX2 46 4 12 0 false := ⟨RX4, TX4, 14, tyX4, rfl, by decide, ugX4, tyX4_ok, nmX4, rfl, rfl, fun _ => rfl, fun h => absurd h (by decide), rfl, rfl, Or.inr ⟨"StageSieve", ntb_of 88 (by decide +kernel) (by decide +kernel)⟩⟩
theorem fiX6_28 : FI RX6 28 7 2 0 false := ⟨RX7, TX7, 3, tyX7, rfl, by decide, ugX7, tyX7_ok, nmX7, rfl, rfl, fun _ => rfl, fun h => absurd h (by decide), rfl, rfl, Or.inr ⟨"StageSieve", ntb_of 135 (by decide +kernel) (by decide +kernel)⟩⟩
theorem fiX8_34 : FI RX8 34 7 2 0 false := ⟨RX7, TX7, 3, tyX7, rfl, by decide, ugX7, tyX7_ok, nmX7, rfl, rfl, fun _ => rfl, fun h => absurd h (by decide), rfl, rfl, Or.inr ⟨"StageSieve", ntb_of 136 (by decide +kernel) (by decide +kernel)⟩⟩
theorem fiX5_34 : FI RX5 34 7 2 0 false := ⟨RX7, TX7, 3, tyX7, rfl, by decide, ugX7, tyX7_ok, nmX7, rfl, rfl, fun _ => rfl, fun h => absurd h (by decide), rfl, rfl, Or.inr ⟨"StageSieve", ntb_of 137 (by decide +kernel) (by decide +kernel)⟩⟩
theorem fiX0_66 : FI RX0 66 7 2 0 false := ⟨RX7, TX7, 3, tyX7, rfl, by decide, ugX7, tyX7_ok, nmX7, rfl, rfl, fun _ => rfl, fun h => absurd h (by decide), rfl, rfl, Or.inr ⟨"StageSieve", ntb_of 138 (by decide +kernel) (by decide +kernel)⟩⟩
theorem fiX11_168 : FI RX11 168 7 2 0 false := ⟨RX7, TX7, 3, tyX7, rfl, by decide, ugX7, tyX7_ok, nmX7, rfl, rfl, fun _ => rfl, fun h => absurd h (by decide), rfl, rfl, Or.inr ⟨"StageSieve", ntb_of 139 (by decide +kernel) (by decide +kernel)⟩⟩
theorem fiX11_136 : FI RX11 136 10 4 0 false := ⟨RX10, TX10, 5, tyX10, rfl, by decide, ugX10, tyX10_ok, nmX10, rfl, rfl, fun _ => rfl, fun h => absurd h (by decide), rfl, rfl, Or.inr ⟨"StageSieve", ntb_of 158 (by decide +kernel) (by decide +kernel)⟩⟩
theorem fiX11_126 : FI RX11 126 1 0 2 true := ⟨RX1, TX1, 2, tyX1, rfl, by decide, ugX1, tyX1_ok, nmX1, rfl, rfl, fun h => absurd h (by decide), fun h => absurd h (by decide), rfl, rfl, Or.inr ⟨"StageSieve", ntb_of 171 (by decide +kernel) (by decide +kernel)⟩⟩
theorem fiX11_132 : FI RX11 132 1 1 2 true := ⟨RX1, TX1, 2, tyX1, rfl, by decide, ugX1, tyX1_ok, nmX1, rfl, rfl, fun h => absurd h (by decide), fun h => absurd h (by decide), rfl, rfl, Or.inr ⟨"StageSieve", ntb_of 173 (by decide +kernel) (by decide +kernel)⟩⟩
theorem fiX11_195 : FI RX11 195 0 7 0 false := ⟨RX0, TX0, 8, tyX0, rfl, by decide, ugX0, tyX0_ok, nmX0, rfl, rfl, fun _ => rfl, fun h => absurd h (by decide), rfl, rfl, Or.inr ⟨"StageSieve", ntb_of 235 (by decide +kernel) (by decide +kernel)⟩⟩
theorem fiX2_61 : FI RX2 61 3 0 1 false := ⟨RX3, TX3, 2, tyX3, rfl, by decide, ugX3, tyX3_ok, nmX3, rfl, rfl, fun h => absurd h (by decide), fun _ => rfl, rfl, rfl, Or.inr ⟨"StageSieve", ntb_of 260 (by decide +kernel) (by decide +kernel)⟩⟩
theorem fiX2_65 : FI RX2 65 3 1 1 false := ⟨RX3, TX3, 2, tyX3, rfl, by decide, ugX3, tyX3_ok, nmX3, rfl, rfl, fun h => absurd h (by decide), fun _ => rfl, rfl, rfl, Or.inr ⟨"StageSieve", ntb_of 262 (by decide +kernel) (by decide +kernel)⟩⟩
theorem fiX11_252 : FI RX11 252 5 3 0 false := ⟨RX5, TX5, 5, tyX5, rfl, by decide, ugX5, tyX5_ok, nmX5, rfl, rfl, fun _ => rfl, fun h => absurd h (by decide), rfl, rfl, Or.inr ⟨"StageSieve", ntb_of 291 (by decide +kernel) (by decide +kernel)⟩⟩
theorem fiX11_258 : FI RX11 258 5 4 0 false := ⟨RX5, TX5, 5, tyX5, rfl, by decide, ugX5, tyX5_ok, nmX5, rfl, rfl, fun _ => rfl, fun h => absurd h (by decide), rfl, rfl, Or.inr ⟨"StageSieve", ntb_of 293 (by decide +kernel) (by decide +kernel)⟩⟩
theorem klX8_32 : Cond.constantLong RX8 32 (Int64.ofInt 1000000) ∈ gtb := gtb_of 421 (by decide +kernel) (by decide +kernel)
theorem klX8_49 : Cond.constantLong RX8 49 (Int64.ofInt 100) ∈ gtb := gtb_of 432 (by decide +kernel) (by decide +kernel)
theorem klX11_180 : Cond.constantLong RX11 180 (Int64.ofInt 100000) ∈ gtb := gtb_of 446 (by decide +kernel) (by decide +kernel)
theorem klX8_62 : Cond.constantLong RX8 62 (Int64.ofInt 1000) ∈ gtb := gtb_of 466 (by decide +kernel) (by decide +kernel)
theorem klX11_217 : Cond.constantLong RX11 217 (Int64.ofInt (-1)) ∈ gtb := gtb_of 546 (by decide +kernel) (by decide +kernel)
theorem klX2_52 : Cond.constantLong RX2 52 (Int64.ofInt 100) ∈ gtb := gtb_of 551 (by decide +kernel) (by decide +kernel)
theorem klX3_22 : Cond.constantLong RX3 22 (Int64.ofInt (-4)) ∈ gtb := gtb_of 563 (by decide +kernel) (by decide +kernel)
theorem klX10_48 : Cond.constantLong RX10 48 (Int64.ofInt 10) ∈ gtb := gtb_of 611 (by decide +kernel) (by decide +kernel)
theorem klX5_39 : Cond.constantLong RX5 39 (Int64.ofInt 7919) ∈ gtb := gtb_of 633 (by decide +kernel) (by decide +kernel)
theorem klX5_41 : Cond.constantLong RX5 41 (Int64.ofInt 3571) ∈ gtb := gtb_of 634 (by decide +kernel) (by decide +kernel)
theorem klX5_76 : Cond.constantLong RX5 76 (Int64.ofInt 6151) ∈ gtb := gtb_of 653 (by decide +kernel) (by decide +kernel)
theorem klX5_89 : Cond.constantLong RX5 89 (Int64.ofInt 65521) ∈ gtb := gtb_of 657 (by decide +kernel) (by decide +kernel)
theorem klX5_91 : Cond.constantLong RX5 91 (Int64.ofInt 100) ∈ gtb := gtb_of 658 (by decide +kernel) (by decide +kernel)
theorem klL_15 : Cond.constantLong RL 15 (Int64.ofInt 44) ∈ gtb := gtb_of 706 (by decide +kernel) (by decide +kernel)
theorem klL_17 : Cond.constantLong RL 17 (Int64.ofInt 59) ∈ gtb := gtb_of 707 (by decide +kernel) (by decide +kernel)
theorem klL_111 : Cond.constantLong RL 111 (Int64.ofInt (-4)) ∈ gtb := gtb_of 754 (by decide +kernel) (by decide +kernel)
theorem klL_128 : Cond.constantLong RL 128 (Int64.ofInt 10) ∈ gtb := gtb_of 755 (by decide +kernel) (by decide +kernel)
theorem mmin_1 : Cond.methodLink RX8 68 Lib.Math.min.name ∈ gtb := gtb_of 479 (by decide +kernel) (by decide +kernel)
theorem mmin_2 : Cond.static Lib.Math.min.name ∈ gtb := gtb_of 480 (by decide +kernel) (by decide +kernel)
theorem mmin_3 : Cond.initialized "java/lang/Math" ∈ gtb := gtb_of 22 (by decide +kernel) (by decide +kernel)
theorem mmin_4 : Cond.code Lib.Math.min.name Lib.Math.min.code 2 (some .int) ∈ gtb := gtb_of 481 (by decide +kernel) (by decide +kernel)
theorem mmax_1 : Cond.methodLink RX2 68 Lib.MathLoose.max_long.x ∈ gtb := gtb_of 573 (by decide +kernel) (by decide +kernel)
theorem mmax_2 : Cond.static Lib.MathLoose.max_long.x ∈ gtb := gtb_of 574 (by decide +kernel) (by decide +kernel)
theorem mmax_3 : Cond.initialized "java/lang/Math" ∈ gtb := gtb_of 22 (by decide +kernel) (by decide +kernel)
theorem mmax_4 : Cond.code Lib.MathLoose.max_long.x Lib.MathLoose.max_long.code 4 (some .long) ∈ gtb := gtb_of 575 (by decide +kernel) (by decide +kernel)

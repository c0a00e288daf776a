/-! THE CELLS: facts of each -/
theorem at_0 : jAt 949 0 11 := ⟨by decide, by decide, by decide +kernel⟩
theorem at_1 : jAt 949 1 8 := ⟨by decide, by decide, by decide +kernel⟩
theorem at_2 : jAt 949 2 1 := ⟨by decide, by decide, by decide +kernel⟩
theorem ar_3 : jAr 949 3 13 8 := ⟨by decide, by decide, by decide +kernel, by decide, by decide⟩
theorem ar_4 : jAr 949 4 13 8 := ⟨by decide, by decide, by decide +kernel, by decide, by decide⟩
theorem ar_5 : jAr 949 5 13 8 := ⟨by decide, by decide, by decide +kernel, by decide, by decide⟩
theorem ar_6 : jAr 949 6 13 6 := ⟨by decide, by decide, by decide +kernel, by decide, by decide⟩
theorem at_7 : jAt 949 7 1 := ⟨by decide, by decide, by decide +kernel⟩
theorem ar_8 : jAr 949 8 13 8 := ⟨by decide, by decide, by decide +kernel, by decide, by decide⟩
theorem ar_9 : jAr 949 9 13 8 := ⟨by decide, by decide, by decide +kernel, by decide, by decide⟩
theorem ar_10 : jAr 949 10 13 8 := ⟨by decide, by decide, by decide +kernel, by decide, by decide⟩
theorem ar_11 : jAr 949 11 13 6 := ⟨by decide, by decide, by decide +kernel, by decide, by decide⟩
theorem at_12 : jAt 949 12 2 := ⟨by decide, by decide, by decide +kernel⟩
theorem ar_13 : jAr 949 13 13 9 := ⟨by decide, by decide, by decide +kernel, by decide, by decide⟩
theorem ar_14 : jAr 949 14 13 400 := ⟨by decide, by decide, by decide +kernel, by decide, by decide⟩
theorem ar_15 : jAr 949 15 13 400 := ⟨by decide, by decide, by decide +kernel, by decide, by decide⟩
theorem ar_16 : jAr 949 16 17 12 := ⟨by decide, by decide, by decide +kernel, by decide, by decide⟩
theorem ar_17 : jAr 949 17 18 16 := ⟨by decide, by decide, by decide +kernel, by decide, by decide⟩
theorem ar_18 : jAr 949 18 19 60 := ⟨by decide, by decide, by decide +kernel, by decide, by decide⟩
theorem ar_19 : jAr 949 19 20 150 := ⟨by decide, by decide, by decide +kernel, by decide, by decide⟩
theorem ar_20 : jAr 949 20 21 10 := ⟨by decide, by decide, by decide +kernel, by decide, by decide⟩
theorem ar_21 : jAr 949 21 13 2 := ⟨by decide, by decide, by decide +kernel, by decide, by decide⟩
theorem ar_22 : jAr 949 22 13 2 := ⟨by decide, by decide, by decide +kernel, by decide, by decide⟩
theorem ar_23 : jAr 949 23 13 2 := ⟨by decide, by decide, by decide +kernel, by decide, by decide⟩
theorem ar_24 : jAr 949 24 13 2 := ⟨by decide, by decide, by decide +kernel, by decide, by decide⟩
theorem ar_25 : jAr 949 25 13 2 := ⟨by decide, by decide, by decide +kernel, by decide, by decide⟩
theorem ar_26 : jAr 949 26 13 2 := ⟨by decide, by decide, by decide +kernel, by decide, by decide⟩
theorem ar_27 : jAr 949 27 13 2 := ⟨by decide, by decide, by decide +kernel, by decide, by decide⟩
theorem ar_28 : jAr 949 28 13 2 := ⟨by decide, by decide, by decide +kernel, by decide, by decide⟩
theorem ar_29 : jAr 949 29 13 2 := ⟨by decide, by decide, by decide +kernel, by decide, by decide⟩
theorem ar_30 : jAr 949 30 13 2 := ⟨by decide, by decide, by decide +kernel, by decide, by decide⟩
theorem ar_31 : jAr 949 31 21 6 := ⟨by decide, by decide, by decide +kernel, by decide, by decide⟩
theorem ar_32 : jAr 949 32 13 301 := ⟨by decide, by decide, by decide +kernel, by decide, by decide⟩
theorem ar_33 : jAr 949 33 13 301 := ⟨by decide, by decide, by decide +kernel, by decide, by decide⟩
theorem ar_34 : jAr 949 34 13 301 := ⟨by decide, by decide, by decide +kernel, by decide, by decide⟩
theorem ar_35 : jAr 949 35 13 301 := ⟨by decide, by decide, by decide +kernel, by decide, by decide⟩
theorem ar_36 : jAr 949 36 13 301 := ⟨by decide, by decide, by decide +kernel, by decide, by decide⟩
theorem ar_37 : jAr 949 37 13 301 := ⟨by decide, by decide, by decide +kernel, by decide, by decide⟩
theorem ar_38 : jAr 949 38 21 4 := ⟨by decide, by decide, by decide +kernel, by decide, by decide⟩
theorem ar_39 : jAr 949 39 13 5 := ⟨by decide, by decide, by decide +kernel, by decide, by decide⟩
theorem ar_40 : jAr 949 40 13 5 := ⟨by decide, by decide, by decide +kernel, by decide, by decide⟩
theorem ar_41 : jAr 949 41 13 5 := ⟨by decide, by decide, by decide +kernel, by decide, by decide⟩
theorem ar_42 : jAr 949 42 13 5 := ⟨by decide, by decide, by decide +kernel, by decide, by decide⟩
theorem ar_43 : jAr 949 43 21 12 := ⟨by decide, by decide, by decide +kernel, by decide, by decide⟩
theorem ar_44 : jAr 949 44 13 2 := ⟨by decide, by decide, by decide +kernel, by decide, by decide⟩
theorem ar_45 : jAr 949 45 13 2 := ⟨by decide, by decide, by decide +kernel, by decide, by decide⟩
theorem ar_46 : jAr 949 46 13 2 := ⟨by decide, by decide, by decide +kernel, by decide, by decide⟩
theorem ar_47 : jAr 949 47 13 2 := ⟨by decide, by decide, by decide +kernel, by decide, by decide⟩
theorem ar_48 : jAr 949 48 13 2 := ⟨by decide, by decide, by decide +kernel, by decide, by decide⟩
theorem ar_49 : jAr 949 49 13 2 := ⟨by decide, by decide, by decide +kernel, by decide, by decide⟩
theorem ar_50 : jAr 949 50 13 2 := ⟨by decide, by decide, by decide +kernel, by decide, by decide⟩
theorem ar_51 : jAr 949 51 13 2 := ⟨by decide, by decide, by decide +kernel, by decide, by decide⟩
theorem ar_52 : jAr 949 52 13 2 := ⟨by decide, by decide, by decide +kernel, by decide, by decide⟩
theorem ar_53 : jAr 949 53 13 2 := ⟨by decide, by decide, by decide +kernel, by decide, by decide⟩
theorem ar_54 : jAr 949 54 13 2 := ⟨by decide, by decide, by decide +kernel, by decide, by decide⟩
theorem ar_55 : jAr 949 55 13 2 := ⟨by decide, by decide, by decide +kernel, by decide, by decide⟩
theorem ar_294 : jAr 949 294 22 2 := ⟨by decide, by decide, by decide +kernel, by decide, by decide⟩
theorem at_295 : jAt 949 295 8 := ⟨by decide, by decide, by decide +kernel⟩
theorem at_296 : jAt 949 296 1 := ⟨by decide, by decide, by decide +kernel⟩
theorem ar_297 : jAr 949 297 13 8 := ⟨by decide, by decide, by decide +kernel, by decide, by decide⟩
theorem ar_298 : jAr 949 298 13 8 := ⟨by decide, by decide, by decide +kernel, by decide, by decide⟩
theorem ar_299 : jAr 949 299 13 8 := ⟨by decide, by decide, by decide +kernel, by decide, by decide⟩
theorem ar_300 : jAr 949 300 13 6 := ⟨by decide, by decide, by decide +kernel, by decide, by decide⟩
theorem at_301 : jAt 949 301 1 := ⟨by decide, by decide, by decide +kernel⟩
theorem ar_302 : jAr 949 302 13 8 := ⟨by decide, by decide, by decide +kernel, by decide, by decide⟩
theorem ar_303 : jAr 949 303 13 8 := ⟨by decide, by decide, by decide +kernel, by decide, by decide⟩
theorem ar_304 : jAr 949 304 13 8 := ⟨by decide, by decide, by decide +kernel, by decide, by decide⟩
theorem ar_305 : jAr 949 305 13 6 := ⟨by decide, by decide, by decide +kernel, by decide, by decide⟩
theorem at_306 : jAt 949 306 2 := ⟨by decide, by decide, by decide +kernel⟩
theorem ar_307 : jAr 949 307 13 9 := ⟨by decide, by decide, by decide +kernel, by decide, by decide⟩
theorem ar_308 : jAr 949 308 13 400 := ⟨by decide, by decide, by decide +kernel, by decide, by decide⟩
theorem ar_309 : jAr 949 309 13 400 := ⟨by decide, by decide, by decide +kernel, by decide, by decide⟩
theorem ar_310 : jAr 949 310 17 12 := ⟨by decide, by decide, by decide +kernel, by decide, by decide⟩
theorem ar_311 : jAr 949 311 18 16 := ⟨by decide, by decide, by decide +kernel, by decide, by decide⟩
theorem ar_312 : jAr 949 312 19 60 := ⟨by decide, by decide, by decide +kernel, by decide, by decide⟩
theorem ar_313 : jAr 949 313 20 150 := ⟨by decide, by decide, by decide +kernel, by decide, by decide⟩
theorem ar_314 : jAr 949 314 21 10 := ⟨by decide, by decide, by decide +kernel, by decide, by decide⟩
theorem ar_315 : jAr 949 315 13 2 := ⟨by decide, by decide, by decide +kernel, by decide, by decide⟩
theorem ar_316 : jAr 949 316 13 2 := ⟨by decide, by decide, by decide +kernel, by decide, by decide⟩
theorem ar_317 : jAr 949 317 13 2 := ⟨by decide, by decide, by decide +kernel, by decide, by decide⟩
theorem ar_318 : jAr 949 318 13 2 := ⟨by decide, by decide, by decide +kernel, by decide, by decide⟩
theorem ar_319 : jAr 949 319 13 2 := ⟨by decide, by decide, by decide +kernel, by decide, by decide⟩
theorem ar_320 : jAr 949 320 13 2 := ⟨by decide, by decide, by decide +kernel, by decide, by decide⟩
theorem ar_321 : jAr 949 321 13 2 := ⟨by decide, by decide, by decide +kernel, by decide, by decide⟩
theorem ar_322 : jAr 949 322 13 2 := ⟨by decide, by decide, by decide +kernel, by decide, by decide⟩
theorem ar_323 : jAr 949 323 13 2 := ⟨by decide, by decide, by decide +kernel, by decide, by decide⟩
theorem ar_324 : jAr 949 324 13 2 := ⟨by decide, by decide, by decide +kernel, by decide, by decide⟩
theorem ar_325 : jAr 949 325 21 6 := ⟨by decide, by decide, by decide +kernel, by decide, by decide⟩
theorem ar_326 : jAr 949 326 13 301 := ⟨by decide, by decide, by decide +kernel, by decide, by decide⟩
theorem ar_327 : jAr 949 327 13 301 := ⟨by decide, by decide, by decide +kernel, by decide, by decide⟩
theorem ar_328 : jAr 949 328 13 301 := ⟨by decide, by decide, by decide +kernel, by decide, by decide⟩
theorem ar_329 : jAr 949 329 13 301 := ⟨by decide, by decide, by decide +kernel, by decide, by decide⟩
theorem ar_330 : jAr 949 330 13 301 := ⟨by decide, by decide, by decide +kernel, by decide, by decide⟩
theorem ar_331 : jAr 949 331 13 301 := ⟨by decide, by decide, by decide +kernel, by decide, by decide⟩
theorem ar_332 : jAr 949 332 21 4 := ⟨by decide, by decide, by decide +kernel, by decide, by decide⟩
theorem ar_333 : jAr 949 333 13 5 := ⟨by decide, by decide, by decide +kernel, by decide, by decide⟩
theorem ar_334 : jAr 949 334 13 5 := ⟨by decide, by decide, by decide +kernel, by decide, by decide⟩
theorem ar_335 : jAr 949 335 13 5 := ⟨by decide, by decide, by decide +kernel, by decide, by decide⟩
theorem ar_336 : jAr 949 336 13 5 := ⟨by decide, by decide, by decide +kernel, by decide, by decide⟩
theorem ar_337 : jAr 949 337 21 12 := ⟨by decide, by decide, by decide +kernel, by decide, by decide⟩
theorem ar_338 : jAr 949 338 13 2 := ⟨by decide, by decide, by decide +kernel, by decide, by decide⟩
theorem ar_339 : jAr 949 339 13 2 := ⟨by decide, by decide, by decide +kernel, by decide, by decide⟩
theorem ar_340 : jAr 949 340 13 2 := ⟨by decide, by decide, by decide +kernel, by decide, by decide⟩
theorem ar_341 : jAr 949 341 13 2 := ⟨by decide, by decide, by decide +kernel, by decide, by decide⟩
theorem ar_342 : jAr 949 342 13 2 := ⟨by decide, by decide, by decide +kernel, by decide, by decide⟩
theorem ar_343 : jAr 949 343 13 2 := ⟨by decide, by decide, by decide +kernel, by decide, by decide⟩
theorem ar_344 : jAr 949 344 13 2 := ⟨by decide, by decide, by decide +kernel, by decide, by decide⟩
theorem ar_345 : jAr 949 345 13 2 := ⟨by decide, by decide, by decide +kernel, by decide, by decide⟩
theorem ar_346 : jAr 949 346 13 2 := ⟨by decide, by decide, by decide +kernel, by decide, by decide⟩
theorem ar_347 : jAr 949 347 13 2 := ⟨by decide, by decide, by decide +kernel, by decide, by decide⟩
theorem ar_348 : jAr 949 348 13 2 := ⟨by decide, by decide, by decide +kernel, by decide, by decide⟩
theorem ar_349 : jAr 949 349 13 2 := ⟨by decide, by decide, by decide +kernel, by decide, by decide⟩
theorem at_588 : jAt 949 588 8 := ⟨by decide, by decide, by decide +kernel⟩
theorem at_589 : jAt 949 589 1 := ⟨by decide, by decide, by decide +kernel⟩
theorem ar_590 : jAr 949 590 13 8 := ⟨by decide, by decide, by decide +kernel, by decide, by decide⟩
theorem ar_591 : jAr 949 591 13 8 := ⟨by decide, by decide, by decide +kernel, by decide, by decide⟩
theorem ar_592 : jAr 949 592 13 8 := ⟨by decide, by decide, by decide +kernel, by decide, by decide⟩
theorem ar_593 : jAr 949 593 13 6 := ⟨by decide, by decide, by decide +kernel, by decide, by decide⟩
theorem at_594 : jAt 949 594 1 := ⟨by decide, by decide, by decide +kernel⟩
theorem ar_595 : jAr 949 595 13 8 := ⟨by decide, by decide, by decide +kernel, by decide, by decide⟩
theorem ar_596 : jAr 949 596 13 8 := ⟨by decide, by decide, by decide +kernel, by decide, by decide⟩
theorem ar_597 : jAr 949 597 13 8 := ⟨by decide, by decide, by decide +kernel, by decide, by decide⟩
theorem ar_598 : jAr 949 598 13 6 := ⟨by decide, by decide, by decide +kernel, by decide, by decide⟩
theorem at_599 : jAt 949 599 2 := ⟨by decide, by decide, by decide +kernel⟩
theorem ar_600 : jAr 949 600 13 9 := ⟨by decide, by decide, by decide +kernel, by decide, by decide⟩
theorem ar_601 : jAr 949 601 13 400 := ⟨by decide, by decide, by decide +kernel, by decide, by decide⟩
theorem ar_602 : jAr 949 602 13 400 := ⟨by decide, by decide, by decide +kernel, by decide, by decide⟩
theorem ar_603 : jAr 949 603 17 12 := ⟨by decide, by decide, by decide +kernel, by decide, by decide⟩
theorem ar_604 : jAr 949 604 18 16 := ⟨by decide, by decide, by decide +kernel, by decide, by decide⟩
theorem ar_605 : jAr 949 605 19 60 := ⟨by decide, by decide, by decide +kernel, by decide, by decide⟩
theorem ar_606 : jAr 949 606 20 150 := ⟨by decide, by decide, by decide +kernel, by decide, by decide⟩
theorem ar_607 : jAr 949 607 21 10 := ⟨by decide, by decide, by decide +kernel, by decide, by decide⟩
theorem ar_608 : jAr 949 608 13 2 := ⟨by decide, by decide, by decide +kernel, by decide, by decide⟩
theorem ar_609 : jAr 949 609 13 2 := ⟨by decide, by decide, by decide +kernel, by decide, by decide⟩
theorem ar_610 : jAr 949 610 13 2 := ⟨by decide, by decide, by decide +kernel, by decide, by decide⟩
theorem ar_611 : jAr 949 611 13 2 := ⟨by decide, by decide, by decide +kernel, by decide, by decide⟩
theorem ar_612 : jAr 949 612 13 2 := ⟨by decide, by decide, by decide +kernel, by decide, by decide⟩
theorem ar_613 : jAr 949 613 13 2 := ⟨by decide, by decide, by decide +kernel, by decide, by decide⟩
theorem ar_614 : jAr 949 614 13 2 := ⟨by decide, by decide, by decide +kernel, by decide, by decide⟩
theorem ar_615 : jAr 949 615 13 2 := ⟨by decide, by decide, by decide +kernel, by decide, by decide⟩
theorem ar_616 : jAr 949 616 13 2 := ⟨by decide, by decide, by decide +kernel, by decide, by decide⟩
theorem ar_617 : jAr 949 617 13 2 := ⟨by decide, by decide, by decide +kernel, by decide, by decide⟩
theorem ar_618 : jAr 949 618 21 6 := ⟨by decide, by decide, by decide +kernel, by decide, by decide⟩
theorem ar_619 : jAr 949 619 13 301 := ⟨by decide, by decide, by decide +kernel, by decide, by decide⟩
theorem ar_620 : jAr 949 620 13 301 := ⟨by decide, by decide, by decide +kernel, by decide, by decide⟩
theorem ar_621 : jAr 949 621 13 301 := ⟨by decide, by decide, by decide +kernel, by decide, by decide⟩
theorem ar_622 : jAr 949 622 13 301 := ⟨by decide, by decide, by decide +kernel, by decide, by decide⟩
theorem ar_623 : jAr 949 623 13 301 := ⟨by decide, by decide, by decide +kernel, by decide, by decide⟩
theorem ar_624 : jAr 949 624 13 301 := ⟨by decide, by decide, by decide +kernel, by decide, by decide⟩
theorem ar_625 : jAr 949 625 21 4 := ⟨by decide, by decide, by decide +kernel, by decide, by decide⟩
theorem ar_626 : jAr 949 626 13 5 := ⟨by decide, by decide, by decide +kernel, by decide, by decide⟩
theorem ar_627 : jAr 949 627 13 5 := ⟨by decide, by decide, by decide +kernel, by decide, by decide⟩
theorem ar_628 : jAr 949 628 13 5 := ⟨by decide, by decide, by decide +kernel, by decide, by decide⟩
theorem ar_629 : jAr 949 629 13 5 := ⟨by decide, by decide, by decide +kernel, by decide, by decide⟩
theorem ar_630 : jAr 949 630 21 12 := ⟨by decide, by decide, by decide +kernel, by decide, by decide⟩
theorem ar_631 : jAr 949 631 13 2 := ⟨by decide, by decide, by decide +kernel, by decide, by decide⟩
theorem ar_632 : jAr 949 632 13 2 := ⟨by decide, by decide, by decide +kernel, by decide, by decide⟩
theorem ar_633 : jAr 949 633 13 2 := ⟨by decide, by decide, by decide +kernel, by decide, by decide⟩
theorem ar_634 : jAr 949 634 13 2 := ⟨by decide, by decide, by decide +kernel, by decide, by decide⟩
theorem ar_635 : jAr 949 635 13 2 := ⟨by decide, by decide, by decide +kernel, by decide, by decide⟩
theorem ar_636 : jAr 949 636 13 2 := ⟨by decide, by decide, by decide +kernel, by decide, by decide⟩
theorem ar_637 : jAr 949 637 13 2 := ⟨by decide, by decide, by decide +kernel, by decide, by decide⟩
theorem ar_638 : jAr 949 638 13 2 := ⟨by decide, by decide, by decide +kernel, by decide, by decide⟩
theorem ar_639 : jAr 949 639 13 2 := ⟨by decide, by decide, by decide +kernel, by decide, by decide⟩
theorem ar_640 : jAr 949 640 13 2 := ⟨by decide, by decide, by decide +kernel, by decide, by decide⟩
theorem ar_641 : jAr 949 641 13 2 := ⟨by decide, by decide, by decide +kernel, by decide, by decide⟩
theorem ar_642 : jAr 949 642 13 2 := ⟨by decide, by decide, by decide +kernel, by decide, by decide⟩
theorem ar_881 : jAr 949 881 15 2 := ⟨by decide, by decide, by decide +kernel, by decide, by decide⟩
theorem at_882 : jAt 949 882 6 := ⟨by decide, by decide, by decide +kernel⟩
theorem at_883 : jAt 949 883 9 := ⟨by decide, by decide, by decide +kernel⟩
theorem ar_884 : jAr 949 884 14 400 := ⟨by decide, by decide, by decide +kernel, by decide, by decide⟩
theorem at_885 : jAt 949 885 1 := ⟨by decide, by decide, by decide +kernel⟩
theorem ar_886 : jAr 949 886 13 8 := ⟨by decide, by decide, by decide +kernel, by decide, by decide⟩
theorem ar_887 : jAr 949 887 13 8 := ⟨by decide, by decide, by decide +kernel, by decide, by decide⟩
theorem ar_888 : jAr 949 888 13 8 := ⟨by decide, by decide, by decide +kernel, by decide, by decide⟩
theorem ar_889 : jAr 949 889 13 6 := ⟨by decide, by decide, by decide +kernel, by decide, by decide⟩
theorem at_890 : jAt 949 890 2 := ⟨by decide, by decide, by decide +kernel⟩
theorem ar_891 : jAr 949 891 13 9 := ⟨by decide, by decide, by decide +kernel, by decide, by decide⟩
theorem ar_892 : jAr 949 892 13 400 := ⟨by decide, by decide, by decide +kernel, by decide, by decide⟩
theorem ar_893 : jAr 949 893 13 400 := ⟨by decide, by decide, by decide +kernel, by decide, by decide⟩
theorem ar_894 : jAr 949 894 23 4 := ⟨by decide, by decide, by decide +kernel, by decide, by decide⟩
theorem at_895 : jAt 949 895 7 := ⟨by decide, by decide, by decide +kernel⟩
theorem ar_896 : jAr 949 896 16 40 := ⟨by decide, by decide, by decide +kernel, by decide, by decide⟩
theorem at_897 : jAt 949 897 7 := ⟨by decide, by decide, by decide +kernel⟩
theorem ar_898 : jAr 949 898 16 40 := ⟨by decide, by decide, by decide +kernel, by decide, by decide⟩
theorem at_899 : jAt 949 899 7 := ⟨by decide, by decide, by decide +kernel⟩
theorem ar_900 : jAr 949 900 16 40 := ⟨by decide, by decide, by decide +kernel, by decide, by decide⟩
theorem at_901 : jAt 949 901 7 := ⟨by decide, by decide, by decide +kernel⟩
theorem ar_902 : jAr 949 902 16 40 := ⟨by decide, by decide, by decide +kernel, by decide, by decide⟩
theorem at_903 : jAt 949 903 4 := ⟨by decide, by decide, by decide +kernel⟩
theorem ar_904 : jAr 949 904 13 10 := ⟨by decide, by decide, by decide +kernel, by decide, by decide⟩
theorem ar_905 : jAr 949 905 13 10 := ⟨by decide, by decide, by decide +kernel, by decide, by decide⟩
theorem ar_906 : jAr 949 906 13 256 := ⟨by decide, by decide, by decide +kernel, by decide, by decide⟩
theorem ar_907 : jAr 949 907 13 256 := ⟨by decide, by decide, by decide +kernel, by decide, by decide⟩
theorem ar_908 : jAr 949 908 13 256 := ⟨by decide, by decide, by decide +kernel, by decide, by decide⟩
theorem ar_909 : jAr 949 909 13 256 := ⟨by decide, by decide, by decide +kernel, by decide, by decide⟩
theorem ar_910 : jAr 949 910 16 256 := ⟨by decide, by decide, by decide +kernel, by decide, by decide⟩
theorem ar_911 : jAr 949 911 13 256 := ⟨by decide, by decide, by decide +kernel, by decide, by decide⟩
theorem ar_912 : jAr 949 912 21 11 := ⟨by decide, by decide, by decide +kernel, by decide, by decide⟩
theorem ar_913 : jAr 949 913 13 11 := ⟨by decide, by decide, by decide +kernel, by decide, by decide⟩
theorem ar_914 : jAr 949 914 13 11 := ⟨by decide, by decide, by decide +kernel, by decide, by decide⟩
theorem ar_915 : jAr 949 915 13 11 := ⟨by decide, by decide, by decide +kernel, by decide, by decide⟩
theorem ar_916 : jAr 949 916 13 11 := ⟨by decide, by decide, by decide +kernel, by decide, by decide⟩
theorem ar_917 : jAr 949 917 13 11 := ⟨by decide, by decide, by decide +kernel, by decide, by decide⟩
theorem ar_918 : jAr 949 918 13 11 := ⟨by decide, by decide, by decide +kernel, by decide, by decide⟩
theorem ar_919 : jAr 949 919 13 11 := ⟨by decide, by decide, by decide +kernel, by decide, by decide⟩
theorem ar_920 : jAr 949 920 13 11 := ⟨by decide, by decide, by decide +kernel, by decide, by decide⟩
theorem ar_921 : jAr 949 921 13 11 := ⟨by decide, by decide, by decide +kernel, by decide, by decide⟩
theorem ar_922 : jAr 949 922 13 11 := ⟨by decide, by decide, by decide +kernel, by decide, by decide⟩
theorem ar_923 : jAr 949 923 13 11 := ⟨by decide, by decide, by decide +kernel, by decide, by decide⟩
theorem ar_924 : jAr 949 924 13 60 := ⟨by decide, by decide, by decide +kernel, by decide, by decide⟩
theorem ar_925 : jAr 949 925 13 12 := ⟨by decide, by decide, by decide +kernel, by decide, by decide⟩
theorem ar_926 : jAr 949 926 15 12 := ⟨by decide, by decide, by decide +kernel, by decide, by decide⟩
theorem ar_927 : jAr 949 927 15 60 := ⟨by decide, by decide, by decide +kernel, by decide, by decide⟩
theorem at_928 : jAt 949 928 12 := ⟨by decide, by decide, by decide +kernel⟩
theorem ar_929 : jAr 949 929 13 11760 := ⟨by decide, by decide, by decide +kernel, by decide, by decide⟩
theorem ar_930 : jAr 949 930 15 2 := ⟨by decide, by decide, by decide +kernel, by decide, by decide⟩
theorem ar_931 : jAr 949 931 13 400 := ⟨by decide, by decide, by decide +kernel, by decide, by decide⟩
theorem ar_932 : jAr 949 932 13 582 := ⟨by decide, by decide, by decide +kernel, by decide, by decide⟩
theorem ar_933 : jAr 949 933 13 7 := ⟨by decide, by decide, by decide +kernel, by decide, by decide⟩
theorem ar_934 : jAr 949 934 13 7 := ⟨by decide, by decide, by decide +kernel, by decide, by decide⟩
theorem ar_935 : jAr 949 935 13 7 := ⟨by decide, by decide, by decide +kernel, by decide, by decide⟩
theorem ar_936 : jAr 949 936 13 10 := ⟨by decide, by decide, by decide +kernel, by decide, by decide⟩
theorem ar_937 : jAr 949 937 13 10 := ⟨by decide, by decide, by decide +kernel, by decide, by decide⟩
theorem ar_938 : jAr 949 938 13 10 := ⟨by decide, by decide, by decide +kernel, by decide, by decide⟩
theorem ar_939 : jAr 949 939 13 10 := ⟨by decide, by decide, by decide +kernel, by decide, by decide⟩
theorem ar_940 : jAr 949 940 15 260 := ⟨by decide, by decide, by decide +kernel, by decide, by decide⟩
theorem ar_941 : jAr 949 941 13 60 := ⟨by decide, by decide, by decide +kernel, by decide, by decide⟩
theorem ar_942 : jAr 949 942 13 256 := ⟨by decide, by decide, by decide +kernel, by decide, by decide⟩
theorem ar_943 : jAr 949 943 13 60 := ⟨by decide, by decide, by decide +kernel, by decide, by decide⟩
theorem ar_944 : jAr 949 944 13 12 := ⟨by decide, by decide, by decide +kernel, by decide, by decide⟩
theorem ar_945 : jAr 949 945 15 60 := ⟨by decide, by decide, by decide +kernel, by decide, by decide⟩
theorem ar_946 : jAr 949 946 13 4 := ⟨by decide, by decide, by decide +kernel, by decide, by decide⟩
theorem ar_947 : jAr 949 947 13 4 := ⟨by decide, by decide, by decide +kernel, by decide, by decide⟩
theorem ar_948 : jAr 949 948 16 160 := ⟨by decide, by decide, by decide +kernel, by decide, by decide⟩
theorem tp_0_0 : topo 0 0 = some 1 := by decide +kernel
theorem tp_0_1 : topo 0 1 = some 294 := by decide +kernel
theorem tp_0_2 : topo 0 2 = some 881 := by decide +kernel
theorem tp_0_3 : topo 0 3 = some 882 := by decide +kernel
theorem tp_0_4 : topo 0 4 = some 894 := by decide +kernel
theorem tp_0_5 : topo 0 5 = some 903 := by decide +kernel
theorem tp_1_0 : topo 1 0 = some 2 := by decide +kernel
theorem tp_1_1 : topo 1 1 = some 7 := by decide +kernel
theorem tp_1_3 : topo 1 3 = some 12 := by decide +kernel
theorem tp_1_5 : topo 1 5 = some 16 := by decide +kernel
theorem tp_1_7 : topo 1 7 = some 17 := by decide +kernel
theorem tp_1_9 : topo 1 9 = some 18 := by decide +kernel
theorem tp_1_11 : topo 1 11 = some 19 := by decide +kernel
theorem tp_1_13 : topo 1 13 = some 20 := by decide +kernel
theorem tp_1_15 : topo 1 15 = some 31 := by decide +kernel
theorem tp_1_16 : topo 1 16 = some 38 := by decide +kernel
theorem tp_1_18 : topo 1 18 = some 43 := by decide +kernel
theorem tp_2_1 : topo 2 1 = some 3 := by decide +kernel
theorem tp_2_2 : topo 2 2 = some 4 := by decide +kernel
theorem tp_2_3 : topo 2 3 = some 5 := by decide +kernel
theorem tp_2_4 : topo 2 4 = some 6 := by decide +kernel
theorem tp_7_1 : topo 7 1 = some 8 := by decide +kernel
theorem tp_7_2 : topo 7 2 = some 9 := by decide +kernel
theorem tp_7_3 : topo 7 3 = some 10 := by decide +kernel
theorem tp_7_4 : topo 7 4 = some 11 := by decide +kernel
theorem tp_12_2 : topo 12 2 = some 13 := by decide +kernel
theorem tp_12_3 : topo 12 3 = some 14 := by decide +kernel
theorem tp_12_4 : topo 12 4 = some 15 := by decide +kernel
theorem tp_295_0 : topo 295 0 = some 296 := by decide +kernel
theorem tp_295_1 : topo 295 1 = some 301 := by decide +kernel
theorem tp_295_3 : topo 295 3 = some 306 := by decide +kernel
theorem tp_295_5 : topo 295 5 = some 310 := by decide +kernel
theorem tp_295_7 : topo 295 7 = some 311 := by decide +kernel
theorem tp_295_9 : topo 295 9 = some 312 := by decide +kernel
theorem tp_295_11 : topo 295 11 = some 313 := by decide +kernel
theorem tp_295_13 : topo 295 13 = some 314 := by decide +kernel
theorem tp_295_15 : topo 295 15 = some 325 := by decide +kernel
theorem tp_295_16 : topo 295 16 = some 332 := by decide +kernel
theorem tp_295_18 : topo 295 18 = some 337 := by decide +kernel
theorem tp_296_1 : topo 296 1 = some 297 := by decide +kernel
theorem tp_296_2 : topo 296 2 = some 298 := by decide +kernel
theorem tp_296_3 : topo 296 3 = some 299 := by decide +kernel
theorem tp_296_4 : topo 296 4 = some 300 := by decide +kernel
theorem tp_301_1 : topo 301 1 = some 302 := by decide +kernel
theorem tp_301_2 : topo 301 2 = some 303 := by decide +kernel
theorem tp_301_3 : topo 301 3 = some 304 := by decide +kernel
theorem tp_301_4 : topo 301 4 = some 305 := by decide +kernel
theorem tp_306_2 : topo 306 2 = some 307 := by decide +kernel
theorem tp_306_3 : topo 306 3 = some 308 := by decide +kernel
theorem tp_306_4 : topo 306 4 = some 309 := by decide +kernel
theorem tp_588_0 : topo 588 0 = some 589 := by decide +kernel
theorem tp_588_1 : topo 588 1 = some 594 := by decide +kernel
theorem tp_588_3 : topo 588 3 = some 599 := by decide +kernel
theorem tp_588_5 : topo 588 5 = some 603 := by decide +kernel
theorem tp_588_7 : topo 588 7 = some 604 := by decide +kernel
theorem tp_588_9 : topo 588 9 = some 605 := by decide +kernel
theorem tp_588_11 : topo 588 11 = some 606 := by decide +kernel
theorem tp_588_13 : topo 588 13 = some 607 := by decide +kernel
theorem tp_588_15 : topo 588 15 = some 618 := by decide +kernel
theorem tp_588_16 : topo 588 16 = some 625 := by decide +kernel
theorem tp_588_18 : topo 588 18 = some 630 := by decide +kernel
theorem tp_589_1 : topo 589 1 = some 590 := by decide +kernel
theorem tp_589_2 : topo 589 2 = some 591 := by decide +kernel
theorem tp_589_3 : topo 589 3 = some 592 := by decide +kernel
theorem tp_589_4 : topo 589 4 = some 593 := by decide +kernel
theorem tp_594_1 : topo 594 1 = some 595 := by decide +kernel
theorem tp_594_2 : topo 594 2 = some 596 := by decide +kernel
theorem tp_594_3 : topo 594 3 = some 597 := by decide +kernel
theorem tp_594_4 : topo 594 4 = some 598 := by decide +kernel
theorem tp_599_2 : topo 599 2 = some 600 := by decide +kernel
theorem tp_599_3 : topo 599 3 = some 601 := by decide +kernel
theorem tp_599_4 : topo 599 4 = some 602 := by decide +kernel
theorem tp_882_0 : topo 882 0 = some 883 := by decide +kernel
theorem tp_882_1 : topo 882 1 = some 885 := by decide +kernel
theorem tp_882_2 : topo 882 2 = some 890 := by decide +kernel
theorem tp_883_0 : topo 883 0 = some 884 := by decide +kernel
theorem tp_885_1 : topo 885 1 = some 886 := by decide +kernel
theorem tp_885_2 : topo 885 2 = some 887 := by decide +kernel
theorem tp_885_3 : topo 885 3 = some 888 := by decide +kernel
theorem tp_885_4 : topo 885 4 = some 889 := by decide +kernel
theorem tp_890_2 : topo 890 2 = some 891 := by decide +kernel
theorem tp_890_3 : topo 890 3 = some 892 := by decide +kernel
theorem tp_890_4 : topo 890 4 = some 893 := by decide +kernel
theorem tp_895_2 : topo 895 2 = some 896 := by decide +kernel
theorem tp_897_2 : topo 897 2 = some 898 := by decide +kernel
theorem tp_899_2 : topo 899 2 = some 900 := by decide +kernel
theorem tp_901_2 : topo 901 2 = some 902 := by decide +kernel
theorem tp_903_1 : topo 903 1 = some 904 := by decide +kernel
theorem tp_903_2 : topo 903 2 = some 905 := by decide +kernel
theorem tp_903_3 : topo 903 3 = some 906 := by decide +kernel
theorem tp_903_4 : topo 903 4 = some 907 := by decide +kernel
theorem tp_903_5 : topo 903 5 = some 908 := by decide +kernel
theorem tp_903_6 : topo 903 6 = some 909 := by decide +kernel
theorem tp_903_7 : topo 903 7 = some 910 := by decide +kernel
theorem tp_903_8 : topo 903 8 = some 911 := by decide +kernel
theorem tp_903_9 : topo 903 9 = some 912 := by decide +kernel
theorem tp_903_10 : topo 903 10 = some 924 := by decide +kernel
theorem tp_903_11 : topo 903 11 = some 925 := by decide +kernel
theorem tp_903_12 : topo 903 12 = some 926 := by decide +kernel
theorem tp_903_13 : topo 903 13 = some 927 := by decide +kernel
theorem tp_928_1 : topo 928 1 = some 929 := by decide +kernel
theorem tp_928_2 : topo 928 2 = some 930 := by decide +kernel
theorem tp_928_3 : topo 928 3 = some 931 := by decide +kernel
theorem tp_928_4 : topo 928 4 = some 932 := by decide +kernel
theorem tp_928_18 : topo 928 18 = some 933 := by decide +kernel
theorem tp_928_19 : topo 928 19 = some 934 := by decide +kernel
theorem tp_928_20 : topo 928 20 = some 935 := by decide +kernel
theorem tp_928_21 : topo 928 21 = some 936 := by decide +kernel
theorem tp_928_22 : topo 928 22 = some 937 := by decide +kernel
theorem tp_928_23 : topo 928 23 = some 938 := by decide +kernel
theorem tp_928_24 : topo 928 24 = some 939 := by decide +kernel
theorem tp_928_25 : topo 928 25 = some 940 := by decide +kernel
theorem tp_928_26 : topo 928 26 = some 941 := by decide +kernel
theorem tp_928_27 : topo 928 27 = some 942 := by decide +kernel
theorem tp_928_28 : topo 928 28 = some 943 := by decide +kernel
theorem tp_928_29 : topo 928 29 = some 944 := by decide +kernel
theorem tp_928_30 : topo 928 30 = some 945 := by decide +kernel
theorem tp_928_31 : topo 928 31 = some 946 := by decide +kernel
theorem tp_928_32 : topo 928 32 = some 947 := by decide +kernel
theorem tp_928_33 : topo 928 33 = some 948 := by decide +kernel
/-- a shop's first cell -/
def jSB (b : Int) : Prop := b = 1 ∨ b = 295 ∨ b = 588
theorem sb_0 : jSB 1 := Or.inl rfl
theorem sb_1 : jSB 295 := Or.inr (Or.inl rfl)
theorem sb_2 : jSB 588 := Or.inr (Or.inr rfl)
theorem jbase_of {b o : Int} (hb : jSB b) (h0 : 0 ≤ o) (h1 : o < 293) : jbase (b + o) = b := by
  unfold jbase
  rcases hb with h | h | h <;> subst h
  · rw [if_neg (by omega), if_pos (by omega)]
  · rw [if_neg (by omega), if_neg (by omega), if_neg (by omega), if_pos (by omega)]
  · rw [if_neg (by omega), if_neg (by omega), if_neg (by omega), if_neg (by omega), if_pos (by omega)]
theorem jsh_of {b o : Int} (hb : jSB b) (h0 : 0 ≤ o) (h1 : o < 293) : jsh (b + o) = jshS o := by
  unfold jsh
  rw [jbase_of hb h0 h1, if_neg (by rcases hb with h | h | h <;> omega)]
  congr 1
  omega
theorem topo_of {b o j t : Int} (hb : jSB b) (h0 : 0 ≤ o) (h1 : o < 293) (hj : 0 ≤ j) (ht : jtpS o j = t) (h2 : 0 ≤ t) : topo (b + o) j = some (b + t) := by
  have e : jtp (b + o) j = b + t := by
    unfold jtp
    rw [jbase_of hb h0 h1, if_neg (by rcases hb with h | h | h <;> omega)]
    have e2 : b + o - b = o := by omega
    rw [e2, ht, if_pos ⟨hj, h2⟩]
  unfold topo
  rw [e, if_neg (by rcases hb with h | h | h <;> omega)]
theorem sb_lt {b o : Int} (hb : jSB b) (h0 : 0 ≤ o) (h1 : o < 293) : 0 ≤ b + o ∧ b + o < ((949 : Nat) : Int) := by
  rcases hb with h | h | h <;> omega
theorem atS {b o : Int} {ci : Nat} (hb : jSB b) (h0 : 0 ≤ o) (h1 : o < 293) (h : jshS o = (ci, jnf ci)) : jAt 949 (b + o) ci := ⟨(sb_lt hb h0 h1).1, (sb_lt hb h0 h1).2, by rw [jsh_of hb h0 h1]; exact h⟩
theorem arS {b o z : Int} {c : Nat} (hb : jSB b) (h0 : 0 ≤ o) (h1 : o < 293) (h : jshS o = (c, z.toNat)) (hz : 0 ≤ z) (hz2 : z < 2147483648) : jAr 949 (b + o) c z := ⟨(sb_lt hb h0 h1).1, (sb_lt hb h0 h1).2, by rw [jsh_of hb h0 h1]; exact h, hz, hz2⟩
theorem shS_kind {p : Int} (h0 : 0 ≤ p) (h1 : p < 12) : jshS (55 + p) = (0, jnf 0) := by
  unfold jshS
  rw [if_neg (by omega), if_pos (by omega)]
  rfl
theorem at_kind {p : Int} (h0 : 0 ≤ p) (h1 : p < 12) : jAt 949 (56 + p) 0 := by
  have h := atS (b := 1) (o := 55 + p) sb_0 (by omega) (by omega) (shS_kind h0 h1)
  have e : (1 : Int) + (55 + p) = 56 + p := by omega
  rwa [e] at h
theorem atb_kind {b p : Int} (hb : jSB b) (h0 : 0 ≤ p) (h1 : p < 12) : jAt 949 (b + (55 + p)) 0 := atS hb (by omega) (by omega) (shS_kind h0 h1)
theorem tpb_kind {b p : Int} (hb : jSB b) (h0 : 0 ≤ p) (h1 : p < 12) : topo (b + 15) p = some (b + (55 + p)) := topo_of hb (by decide) (by decide) h0 (by unfold jtpS; simp; omega) (by omega)
theorem tp_kind {p : Int} (h0 : 0 ≤ p) (h1 : p < 12) : topo 16 p = some (56 + p) := by
  have h := tpb_kind sb_0 h0 h1
  have e : (1 : Int) + (55 + p) = 56 + p := by omega
  rwa [e] at h
theorem shS_person {p : Int} (h0 : 0 ≤ p) (h1 : p < 16) : jshS (67 + p) = (3, jnf 3) := by
  unfold jshS
  rw [if_neg (by omega), if_neg (by omega), if_pos (by omega)]
  rfl
theorem at_person {p : Int} (h0 : 0 ≤ p) (h1 : p < 16) : jAt 949 (68 + p) 3 := by
  have h := atS (b := 1) (o := 67 + p) sb_0 (by omega) (by omega) (shS_person h0 h1)
  have e : (1 : Int) + (67 + p) = 68 + p := by omega
  rwa [e] at h
theorem atb_person {b p : Int} (hb : jSB b) (h0 : 0 ≤ p) (h1 : p < 16) : jAt 949 (b + (67 + p)) 3 := atS hb (by omega) (by omega) (shS_person h0 h1)
theorem tpb_person {b p : Int} (hb : jSB b) (h0 : 0 ≤ p) (h1 : p < 16) : topo (b + 16) p = some (b + (67 + p)) := topo_of hb (by decide) (by decide) h0 (by unfold jtpS; simp; omega) (by omega)
theorem tp_person {p : Int} (h0 : 0 ≤ p) (h1 : p < 16) : topo 17 p = some (68 + p) := by
  have h := tpb_person sb_0 h0 h1
  have e : (1 : Int) + (67 + p) = 68 + p := by omega
  rwa [e] at h
theorem shS_pledge {p : Int} (h0 : 0 ≤ p) (h1 : p < 60) : jshS (83 + p) = (5, jnf 5) := by
  unfold jshS
  rw [if_neg (by omega), if_neg (by omega), if_neg (by omega), if_pos (by omega)]
  rfl
theorem at_pledge {p : Int} (h0 : 0 ≤ p) (h1 : p < 60) : jAt 949 (84 + p) 5 := by
  have h := atS (b := 1) (o := 83 + p) sb_0 (by omega) (by omega) (shS_pledge h0 h1)
  have e : (1 : Int) + (83 + p) = 84 + p := by omega
  rwa [e] at h
theorem atb_pledge {b p : Int} (hb : jSB b) (h0 : 0 ≤ p) (h1 : p < 60) : jAt 949 (b + (83 + p)) 5 := atS hb (by omega) (by omega) (shS_pledge h0 h1)
theorem tpb_pledge {b p : Int} (hb : jSB b) (h0 : 0 ≤ p) (h1 : p < 60) : topo (b + 17) p = some (b + (83 + p)) := topo_of hb (by decide) (by decide) h0 (by unfold jtpS; simp; omega) (by omega)
theorem tp_pledge {p : Int} (h0 : 0 ≤ p) (h1 : p < 60) : topo 18 p = some (84 + p) := by
  have h := tpb_pledge sb_0 h0 h1
  have e : (1 : Int) + (83 + p) = 84 + p := by omega
  rwa [e] at h
theorem shS_ticket {p : Int} (h0 : 0 ≤ p) (h1 : p < 150) : jshS (143 + p) = (10, jnf 10) := by
  unfold jshS
  rw [if_neg (by omega), if_neg (by omega), if_neg (by omega), if_neg (by omega)]
  rfl
theorem at_ticket {p : Int} (h0 : 0 ≤ p) (h1 : p < 150) : jAt 949 (144 + p) 10 := by
  have h := atS (b := 1) (o := 143 + p) sb_0 (by omega) (by omega) (shS_ticket h0 h1)
  have e : (1 : Int) + (143 + p) = 144 + p := by omega
  rwa [e] at h
theorem atb_ticket {b p : Int} (hb : jSB b) (h0 : 0 ≤ p) (h1 : p < 150) : jAt 949 (b + (143 + p)) 10 := atS hb (by omega) (by omega) (shS_ticket h0 h1)
theorem tpb_ticket {b p : Int} (hb : jSB b) (h0 : 0 ≤ p) (h1 : p < 150) : topo (b + 18) p = some (b + (143 + p)) := topo_of hb (by decide) (by decide) h0 (by unfold jtpS; simp; omega) (by omega)
theorem tp_ticket {p : Int} (h0 : 0 ≤ p) (h1 : p < 150) : topo 19 p = some (144 + p) := by
  have h := tpb_ticket sb_0 h0 h1
  have e : (1 : Int) + (143 + p) = 144 + p := by omega
  rwa [e] at h
theorem shS_rackrow {p : Int} (h0 : 0 ≤ p) (h1 : p < 10) : jshS (20 + p) = (13, (2 : Int).toNat) := by
  have h : p = 0 ∨ p = 1 ∨ p = 2 ∨ p = 3 ∨ p = 4 ∨ p = 5 ∨ p = 6 ∨ p = 7 ∨ p = 8 ∨ p = 9 := by omega
  rcases h with h | h | h | h | h | h | h | h | h | h <;> subst h <;> decide +kernel
theorem ar_rackrow {p : Int} (h0 : 0 ≤ p) (h1 : p < 10) : jAr 949 (21 + p) 13 2 := by
  have h := arS (b := 1) (o := 20 + p) (z := 2) sb_0 (by omega) (by omega) (shS_rackrow h0 h1) (by decide) (by decide)
  have e : (1 : Int) + (20 + p) = 21 + p := by omega
  rwa [e] at h
theorem arb_rackrow {b p : Int} (hb : jSB b) (h0 : 0 ≤ p) (h1 : p < 10) : jAr 949 (b + (20 + p)) 13 2 := arS hb (by omega) (by omega) (shS_rackrow h0 h1) (by decide) (by decide)
theorem tpb_rackrow {b p : Int} (hb : jSB b) (h0 : 0 ≤ p) (h1 : p < 10) : topo (b + 19) p = some (b + (20 + p)) := topo_of hb (by decide) (by decide) h0 (by unfold jtpS; simp; omega) (by omega)
theorem tp_rackrow {p : Int} (h0 : 0 ≤ p) (h1 : p < 10) : topo 20 p = some (21 + p) := by
  have h := tpb_rackrow sb_0 h0 h1
  have e : (1 : Int) + (20 + p) = 21 + p := by omega
  rwa [e] at h
theorem shS_bookrow {p : Int} (h0 : 0 ≤ p) (h1 : p < 6) : jshS (31 + p) = (13, (301 : Int).toNat) := by
  have h : p = 0 ∨ p = 1 ∨ p = 2 ∨ p = 3 ∨ p = 4 ∨ p = 5 := by omega
  rcases h with h | h | h | h | h | h <;> subst h <;> decide +kernel
theorem ar_bookrow {p : Int} (h0 : 0 ≤ p) (h1 : p < 6) : jAr 949 (32 + p) 13 301 := by
  have h := arS (b := 1) (o := 31 + p) (z := 301) sb_0 (by omega) (by omega) (shS_bookrow h0 h1) (by decide) (by decide)
  have e : (1 : Int) + (31 + p) = 32 + p := by omega
  rwa [e] at h
theorem arb_bookrow {b p : Int} (hb : jSB b) (h0 : 0 ≤ p) (h1 : p < 6) : jAr 949 (b + (31 + p)) 13 301 := arS hb (by omega) (by omega) (shS_bookrow h0 h1) (by decide) (by decide)
theorem tpb_bookrow {b p : Int} (hb : jSB b) (h0 : 0 ≤ p) (h1 : p < 6) : topo (b + 30) p = some (b + (31 + p)) := topo_of hb (by decide) (by decide) h0 (by unfold jtpS; simp; omega) (by omega)
theorem tp_bookrow {p : Int} (h0 : 0 ≤ p) (h1 : p < 6) : topo 31 p = some (32 + p) := by
  have h := tpb_bookrow sb_0 h0 h1
  have e : (1 : Int) + (31 + p) = 32 + p := by omega
  rwa [e] at h
theorem shS_handrow {p : Int} (h0 : 0 ≤ p) (h1 : p < 4) : jshS (38 + p) = (13, (5 : Int).toNat) := by
  have h : p = 0 ∨ p = 1 ∨ p = 2 ∨ p = 3 := by omega
  rcases h with h | h | h | h <;> subst h <;> decide +kernel
theorem ar_handrow {p : Int} (h0 : 0 ≤ p) (h1 : p < 4) : jAr 949 (39 + p) 13 5 := by
  have h := arS (b := 1) (o := 38 + p) (z := 5) sb_0 (by omega) (by omega) (shS_handrow h0 h1) (by decide) (by decide)
  have e : (1 : Int) + (38 + p) = 39 + p := by omega
  rwa [e] at h
theorem arb_handrow {b p : Int} (hb : jSB b) (h0 : 0 ≤ p) (h1 : p < 4) : jAr 949 (b + (38 + p)) 13 5 := arS hb (by omega) (by omega) (shS_handrow h0 h1) (by decide) (by decide)
theorem tpb_handrow {b p : Int} (hb : jSB b) (h0 : 0 ≤ p) (h1 : p < 4) : topo (b + 37) p = some (b + (38 + p)) := topo_of hb (by decide) (by decide) h0 (by unfold jtpS; simp; omega) (by omega)
theorem tp_handrow {p : Int} (h0 : 0 ≤ p) (h1 : p < 4) : topo 38 p = some (39 + p) := by
  have h := tpb_handrow sb_0 h0 h1
  have e : (1 : Int) + (38 + p) = 39 + p := by omega
  rwa [e] at h
theorem shS_listrow {p : Int} (h0 : 0 ≤ p) (h1 : p < 12) : jshS (43 + p) = (13, (2 : Int).toNat) := by
  have h : p = 0 ∨ p = 1 ∨ p = 2 ∨ p = 3 ∨ p = 4 ∨ p = 5 ∨ p = 6 ∨ p = 7 ∨ p = 8 ∨ p = 9 ∨ p = 10 ∨ p = 11 := by omega
  rcases h with h | h | h | h | h | h | h | h | h | h | h | h <;> subst h <;> decide +kernel
theorem ar_listrow {p : Int} (h0 : 0 ≤ p) (h1 : p < 12) : jAr 949 (44 + p) 13 2 := by
  have h := arS (b := 1) (o := 43 + p) (z := 2) sb_0 (by omega) (by omega) (shS_listrow h0 h1) (by decide) (by decide)
  have e : (1 : Int) + (43 + p) = 44 + p := by omega
  rwa [e] at h
theorem arb_listrow {b p : Int} (hb : jSB b) (h0 : 0 ≤ p) (h1 : p < 12) : jAr 949 (b + (43 + p)) 13 2 := arS hb (by omega) (by omega) (shS_listrow h0 h1) (by decide) (by decide)
theorem tpb_listrow {b p : Int} (hb : jSB b) (h0 : 0 ≤ p) (h1 : p < 12) : topo (b + 42) p = some (b + (43 + p)) := topo_of hb (by decide) (by decide) h0 (by unfold jtpS; simp; omega) (by omega)
theorem tp_listrow {p : Int} (h0 : 0 ≤ p) (h1 : p < 12) : topo 43 p = some (44 + p) := by
  have h := tpb_listrow sb_0 h0 h1
  have e : (1 : Int) + (43 + p) = 44 + p := by omega
  rwa [e] at h
theorem ar_lotrow {p : Int} (h0 : 0 ≤ p) (h1 : p < 11) : jAr 949 (913 + p) 13 11 := by
  have h : p = 0 ∨ p = 1 ∨ p = 2 ∨ p = 3 ∨ p = 4 ∨ p = 5 ∨ p = 6 ∨ p = 7 ∨ p = 8 ∨ p = 9 ∨ p = 10 := by omega
  rcases h with h | h | h | h | h | h | h | h | h | h | h <;> subst h <;> exact ⟨by decide, by decide, by decide +kernel, by decide, by decide⟩
theorem tp_lotrow {p : Int} (h0 : 0 ≤ p) (h1 : p < 11) : topo 912 p = some (913 + p) := by
  have h : p = 0 ∨ p = 1 ∨ p = 2 ∨ p = 3 ∨ p = 4 ∨ p = 5 ∨ p = 6 ∨ p = 7 ∨ p = 8 ∨ p = 9 ∨ p = 10 := by omega
  rcases h with h | h | h | h | h | h | h | h | h | h | h <;> subst h <;> decide +kernel
theorem tp_row {p : Int} (h0 : 0 ≤ p) (h1 : p < 4) : topo 894 p = some (895 + 2 * p) := by
  have h : p = 0 ∨ p = 1 ∨ p = 2 ∨ p = 3 := by omega
  rcases h with h | h | h | h <;> subst h <;> decide +kernel
theorem at_row {p : Int} (h0 : 0 ≤ p) (h1 : p < 4) : jAt 949 (895 + 2 * p) 7 := by
  have h : p = 0 ∨ p = 1 ∨ p = 2 ∨ p = 3 := by omega
  rcases h with h | h | h | h <;> subst h <;> exact ⟨by decide, by decide, by decide +kernel⟩
theorem tp_rownum {p : Int} (h0 : 0 ≤ p) (h1 : p < 4) : topo (895 + 2 * p) 2 = some (896 + 2 * p) := by
  have h : p = 0 ∨ p = 1 ∨ p = 2 ∨ p = 3 := by omega
  rcases h with h | h | h | h <;> subst h <;> decide +kernel
theorem ar_rownum {p : Int} (h0 : 0 ≤ p) (h1 : p < 4) : jAr 949 (896 + 2 * p) 16 40 := by
  have h : p = 0 ∨ p = 1 ∨ p = 2 ∨ p = 3 := by omega
  rcases h with h | h | h | h <;> subst h <;> exact ⟨by decide, by decide, by decide +kernel, by decide, by decide⟩
theorem tp_image {p : Int} (h0 : 0 ≤ p) (h1 : p < 2) : topo 294 p = some (295 + 293 * p) := by
  have h : p = 0 ∨ p = 1 := by omega
  rcases h with h | h <;> subst h <;> decide +kernel
theorem at_image {p : Int} (h0 : 0 ≤ p) (h1 : p < 2) : jAt 949 (295 + 293 * p) 8 := by
  have h : p = 0 ∨ p = 1 := by omega
  rcases h with h | h <;> subst h <;> exact ⟨by decide, by decide, by decide +kernel⟩

theorem dL_law__598 : decode cL_law_ 598 = .ok (.iload 5, 2) := by decide +kernel
theorem dL_law__600 : decode cL_law_ 600 = .ok (.ifCond .ne 15, 3) := by decide +kernel
theorem dL_law__603 : decode cL_law_ 603 = .ok (.aload_n 3, 1) := by decide +kernel
theorem dL_law__604 : decode cL_law_ 604 = .ok (.iconst 0, 1) := by decide +kernel
theorem dL_law__605 : decode cL_law_ 605 = .ok (.laload, 1) := by decide +kernel
theorem dL_law__606 : decode cL_law_ 606 = .ok (.iload 6, 2) := by decide +kernel
theorem dL_law__608 : decode cL_law_ 608 = .ok (.i2l, 1) := by decide +kernel
theorem dL_law__609 : decode cL_law_ 609 = .ok (.lcmp, 1) := by decide +kernel
theorem dL_law__610 : decode cL_law_ 610 = .ok (.ifCond .eq 5, 3) := by decide +kernel
theorem dL_law__613 : decode cL_law_ 613 = .ok (.iconst 0, 1) := by decide +kernel
theorem dL_law__614 : decode cL_law_ 614 = .ok (.ireturn, 1) := by decide +kernel
theorem dL_law__615 : decode cL_law_ 615 = .ok (.goto 2024, 3) := by decide +kernel
theorem dL_law__618 : decode cL_law_ 618 = .ok (.aload_n 1, 1) := by decide +kernel
theorem dL_law__619 : decode cL_law_ 619 = .ok (.aload_n 0, 1) := by decide +kernel
theorem dL_law__620 : decode cL_law_ 620 = .ok (.iload 4, 2) := by decide +kernel
theorem dL_law__622 : decode cL_law_ 622 = .ok (.iconst 1, 1) := by decide +kernel
theorem dL_law__623 : decode cL_law_ 623 = .ok (.iadd, 1) := by decide +kernel
theorem dL_law__624 : decode cL_law_ 624 = .ok (.iaload, 1) := by decide +kernel
theorem dL_law__625 : decode cL_law_ 625 = .ok (.aload_n 0, 1) := by decide +kernel
theorem dL_law__626 : decode cL_law_ 626 = .ok (.iload 4, 2) := by decide +kernel
theorem dL_law__628 : decode cL_law_ 628 = .ok (.iconst 2, 1) := by decide +kernel
theorem dL_law__629 : decode cL_law_ 629 = .ok (.iadd, 1) := by decide +kernel
theorem dL_law__630 : decode cL_law_ 630 = .ok (.iaload, 1) := by decide +kernel
theorem dL_law__631 : decode cL_law_ 631 = .ok (.aload_n 0, 1) := by decide +kernel
theorem dL_law__632 : decode cL_law_ 632 = .ok (.iload 4, 2) := by decide +kernel
theorem dL_law__634 : decode cL_law_ 634 = .ok (.iconst 3, 1) := by decide +kernel
theorem dL_law__635 : decode cL_law_ 635 = .ok (.iadd, 1) := by decide +kernel
theorem dL_law__636 : decode cL_law_ 636 = .ok (.iaload, 1) := by decide +kernel
theorem dL_law__637 : decode cL_law_ 637 = .ok (.aload_n 3, 1) := by decide +kernel
theorem dL_law__638 : decode cL_law_ 638 = .ok (.invokestatic 147, 3) := by decide +kernel
theorem dL_law__641 : decode cL_law_ 641 = .ok (.istore 5, 2) := by decide +kernel
theorem dL_law__643 : decode cL_law_ 643 = .ok (.aload_n 2, 1) := by decide +kernel
theorem dL_law__644 : decode cL_law_ 644 = .ok (.aload_n 0, 1) := by decide +kernel
theorem dL_law__645 : decode cL_law_ 645 = .ok (.iload 4, 2) := by decide +kernel
theorem dL_law__647 : decode cL_law_ 647 = .ok (.iconst 1, 1) := by decide +kernel
theorem dL_law__648 : decode cL_law_ 648 = .ok (.iadd, 1) := by decide +kernel
theorem dL_law__649 : decode cL_law_ 649 = .ok (.iaload, 1) := by decide +kernel
theorem dL_law__650 : decode cL_law_ 650 = .ok (.aload_n 0, 1) := by decide +kernel
theorem dL_law__651 : decode cL_law_ 651 = .ok (.iload 4, 2) := by decide +kernel
theorem dL_law__653 : decode cL_law_ 653 = .ok (.iconst 2, 1) := by decide +kernel
theorem dL_law__654 : decode cL_law_ 654 = .ok (.iadd, 1) := by decide +kernel
theorem dL_law__655 : decode cL_law_ 655 = .ok (.iaload, 1) := by decide +kernel
theorem dL_law__656 : decode cL_law_ 656 = .ok (.aload_n 0, 1) := by decide +kernel
theorem dL_law__657 : decode cL_law_ 657 = .ok (.iload 4, 2) := by decide +kernel
theorem dL_law__659 : decode cL_law_ 659 = .ok (.iconst 3, 1) := by decide +kernel
theorem dL_law__660 : decode cL_law_ 660 = .ok (.iadd, 1) := by decide +kernel
theorem dL_law__661 : decode cL_law_ 661 = .ok (.iaload, 1) := by decide +kernel
theorem dL_law__662 : decode cL_law_ 662 = .ok (.invokevirtual 149, 3) := by decide +kernel
theorem dL_law__665 : decode cL_law_ 665 = .ok (.istore 6, 2) := by decide +kernel
theorem dL_law__667 : decode cL_law_ 667 = .ok (.aload_n 2, 1) := by decide +kernel
theorem dL_law__668 : decode cL_law_ 668 = .ok (.invokevirtual 124, 3) := by decide +kernel
theorem dL_law__671 : decode cL_law_ 671 = .ok (.iload 5, 2) := by decide +kernel
theorem dL_law__673 : decode cL_law_ 673 = .ok (.if_icmp .eq 5, 3) := by decide +kernel
theorem dL_law__676 : decode cL_law_ 676 = .ok (.iconst 0, 1) := by decide +kernel
theorem dL_law__677 : decode cL_law_ 677 = .ok (.ireturn, 1) := by decide +kernel
theorem dL_law__678 : decode cL_law_ 678 = .ok (.iload 5, 2) := by decide +kernel
theorem dL_law__680 : decode cL_law_ 680 = .ok (.ifCond .ne 15, 3) := by decide +kernel
theorem dL_law__683 : decode cL_law_ 683 = .ok (.aload_n 3, 1) := by decide +kernel
theorem dL_law__684 : decode cL_law_ 684 = .ok (.iconst 0, 1) := by decide +kernel
theorem dL_law__685 : decode cL_law_ 685 = .ok (.laload, 1) := by decide +kernel
theorem dL_law__686 : decode cL_law_ 686 = .ok (.iload 6, 2) := by decide +kernel
theorem dL_law__688 : decode cL_law_ 688 = .ok (.i2l, 1) := by decide +kernel
theorem dL_law__689 : decode cL_law_ 689 = .ok (.lcmp, 1) := by decide +kernel
theorem dL_law__690 : decode cL_law_ 690 = .ok (.ifCond .eq 5, 3) := by decide +kernel
theorem dL_law__693 : decode cL_law_ 693 = .ok (.iconst 0, 1) := by decide +kernel
theorem dL_law__694 : decode cL_law_ 694 = .ok (.ireturn, 1) := by decide +kernel
theorem dL_law__695 : decode cL_law_ 695 = .ok (.goto 1944, 3) := by decide +kernel
theorem dL_law__698 : decode cL_law_ 698 = .ok (.aload_n 1, 1) := by decide +kernel
theorem dL_law__699 : decode cL_law_ 699 = .ok (.aload_n 0, 1) := by decide +kernel
theorem dL_law__700 : decode cL_law_ 700 = .ok (.iload 4, 2) := by decide +kernel
theorem dL_law__702 : decode cL_law_ 702 = .ok (.iconst 1, 1) := by decide +kernel
theorem dL_law__703 : decode cL_law_ 703 = .ok (.iadd, 1) := by decide +kernel
theorem dL_law__704 : decode cL_law_ 704 = .ok (.iaload, 1) := by decide +kernel
theorem dL_law__705 : decode cL_law_ 705 = .ok (.aload_n 0, 1) := by decide +kernel
theorem dL_law__706 : decode cL_law_ 706 = .ok (.iload 4, 2) := by decide +kernel
theorem dL_law__708 : decode cL_law_ 708 = .ok (.iconst 2, 1) := by decide +kernel
theorem dL_law__709 : decode cL_law_ 709 = .ok (.iadd, 1) := by decide +kernel
theorem dL_law__710 : decode cL_law_ 710 = .ok (.iaload, 1) := by decide +kernel
theorem dL_law__711 : decode cL_law_ 711 = .ok (.aload_n 3, 1) := by decide +kernel
theorem dL_law__712 : decode cL_law_ 712 = .ok (.invokestatic 150, 3) := by decide +kernel
theorem dL_law__715 : decode cL_law_ 715 = .ok (.istore 5, 2) := by decide +kernel
theorem dL_law__717 : decode cL_law_ 717 = .ok (.aload_n 2, 1) := by decide +kernel
theorem dL_law__718 : decode cL_law_ 718 = .ok (.aload_n 0, 1) := by decide +kernel
theorem dL_law__719 : decode cL_law_ 719 = .ok (.iload 4, 2) := by decide +kernel
theorem dL_law__721 : decode cL_law_ 721 = .ok (.iconst 1, 1) := by decide +kernel
theorem dL_law__722 : decode cL_law_ 722 = .ok (.iadd, 1) := by decide +kernel
theorem dL_law__723 : decode cL_law_ 723 = .ok (.iaload, 1) := by decide +kernel
theorem dL_law__724 : decode cL_law_ 724 = .ok (.aload_n 0, 1) := by decide +kernel
theorem dL_law__725 : decode cL_law_ 725 = .ok (.iload 4, 2) := by decide +kernel
theorem dL_law__727 : decode cL_law_ 727 = .ok (.iconst 2, 1) := by decide +kernel
theorem dL_law__728 : decode cL_law_ 728 = .ok (.iadd, 1) := by decide +kernel
theorem dL_law__729 : decode cL_law_ 729 = .ok (.iaload, 1) := by decide +kernel
theorem dL_law__730 : decode cL_law_ 730 = .ok (.invokevirtual 152, 3) := by decide +kernel
theorem dL_law__733 : decode cL_law_ 733 = .ok (.istore 6, 2) := by decide +kernel
theorem dL_law__735 : decode cL_law_ 735 = .ok (.aload_n 2, 1) := by decide +kernel
theorem dL_law__736 : decode cL_law_ 736 = .ok (.invokevirtual 124, 3) := by decide +kernel
theorem dL_law__739 : decode cL_law_ 739 = .ok (.iload 5, 2) := by decide +kernel
theorem dL_law__741 : decode cL_law_ 741 = .ok (.if_icmp .eq 5, 3) := by decide +kernel
theorem dL_law__744 : decode cL_law_ 744 = .ok (.iconst 0, 1) := by decide +kernel
theorem dL_law__745 : decode cL_law_ 745 = .ok (.ireturn, 1) := by decide +kernel
theorem dL_law__746 : decode cL_law_ 746 = .ok (.iload 5, 2) := by decide +kernel
theorem dL_law__748 : decode cL_law_ 748 = .ok (.ifCond .ne 15, 3) := by decide +kernel
theorem dL_law__751 : decode cL_law_ 751 = .ok (.aload_n 3, 1) := by decide +kernel
theorem dL_law__752 : decode cL_law_ 752 = .ok (.iconst 0, 1) := by decide +kernel
theorem dL_law__753 : decode cL_law_ 753 = .ok (.laload, 1) := by decide +kernel
theorem dL_law__754 : decode cL_law_ 754 = .ok (.iload 6, 2) := by decide +kernel
theorem dL_law__756 : decode cL_law_ 756 = .ok (.i2l, 1) := by decide +kernel
theorem dL_law__757 : decode cL_law_ 757 = .ok (.lcmp, 1) := by decide +kernel
theorem dL_law__758 : decode cL_law_ 758 = .ok (.ifCond .eq 5, 3) := by decide +kernel
theorem dL_law__761 : decode cL_law_ 761 = .ok (.iconst 0, 1) := by decide +kernel
theorem dL_law__762 : decode cL_law_ 762 = .ok (.ireturn, 1) := by decide +kernel
theorem dL_law__763 : decode cL_law_ 763 = .ok (.goto 1876, 3) := by decide +kernel
theorem dL_law__766 : decode cL_law_ 766 = .ok (.aload_n 1, 1) := by decide +kernel
theorem dL_law__767 : decode cL_law_ 767 = .ok (.aload_n 0, 1) := by decide +kernel
theorem dL_law__768 : decode cL_law_ 768 = .ok (.iload 4, 2) := by decide +kernel
theorem dL_law__770 : decode cL_law_ 770 = .ok (.iconst 1, 1) := by decide +kernel
theorem dL_law__771 : decode cL_law_ 771 = .ok (.iadd, 1) := by decide +kernel
theorem dL_law__772 : decode cL_law_ 772 = .ok (.iaload, 1) := by decide +kernel
theorem dL_law__773 : decode cL_law_ 773 = .ok (.aload_n 0, 1) := by decide +kernel
theorem dL_law__774 : decode cL_law_ 774 = .ok (.iload 4, 2) := by decide +kernel
theorem dL_law__776 : decode cL_law_ 776 = .ok (.iconst 2, 1) := by decide +kernel
theorem dL_law__777 : decode cL_law_ 777 = .ok (.iadd, 1) := by decide +kernel
theorem dL_law__778 : decode cL_law_ 778 = .ok (.iaload, 1) := by decide +kernel
theorem dL_law__779 : decode cL_law_ 779 = .ok (.aload_n 0, 1) := by decide +kernel
theorem dL_law__780 : decode cL_law_ 780 = .ok (.iload 4, 2) := by decide +kernel
theorem dL_law__782 : decode cL_law_ 782 = .ok (.iconst 3, 1) := by decide +kernel
theorem dL_law__783 : decode cL_law_ 783 = .ok (.iadd, 1) := by decide +kernel
theorem dL_law__784 : decode cL_law_ 784 = .ok (.iaload, 1) := by decide +kernel
theorem dL_law__785 : decode cL_law_ 785 = .ok (.aload_n 0, 1) := by decide +kernel
theorem dL_law__786 : decode cL_law_ 786 = .ok (.iload 4, 2) := by decide +kernel
theorem dL_law__788 : decode cL_law_ 788 = .ok (.iconst 4, 1) := by decide +kernel
theorem dL_law__789 : decode cL_law_ 789 = .ok (.iadd, 1) := by decide +kernel
theorem dL_law__790 : decode cL_law_ 790 = .ok (.iaload, 1) := by decide +kernel
theorem dL_law__791 : decode cL_law_ 791 = .ok (.ifCond .eq 7, 3) := by decide +kernel
theorem dL_law__794 : decode cL_law_ 794 = .ok (.iconst 1, 1) := by decide +kernel
theorem dL_law__795 : decode cL_law_ 795 = .ok (.goto 4, 3) := by decide +kernel
theorem dL_law__798 : decode cL_law_ 798 = .ok (.iconst 0, 1) := by decide +kernel
theorem dL_law__799 : decode cL_law_ 799 = .ok (.aload_n 3, 1) := by decide +kernel
theorem dL_law__800 : decode cL_law_ 800 = .ok (.invokestatic 153, 3) := by decide +kernel
theorem dL_law__803 : decode cL_law_ 803 = .ok (.istore 5, 2) := by decide +kernel
theorem dL_law__805 : decode cL_law_ 805 = .ok (.aload_n 2, 1) := by decide +kernel
theorem dL_law__806 : decode cL_law_ 806 = .ok (.aload_n 0, 1) := by decide +kernel
theorem dL_law__807 : decode cL_law_ 807 = .ok (.iload 4, 2) := by decide +kernel
theorem dL_law__809 : decode cL_law_ 809 = .ok (.iconst 1, 1) := by decide +kernel
theorem dL_law__810 : decode cL_law_ 810 = .ok (.iadd, 1) := by decide +kernel
theorem dL_law__811 : decode cL_law_ 811 = .ok (.iaload, 1) := by decide +kernel
theorem dL_law__812 : decode cL_law_ 812 = .ok (.aload_n 0, 1) := by decide +kernel
theorem dL_law__813 : decode cL_law_ 813 = .ok (.iload 4, 2) := by decide +kernel
theorem dL_law__815 : decode cL_law_ 815 = .ok (.iconst 2, 1) := by decide +kernel
theorem dL_law__816 : decode cL_law_ 816 = .ok (.iadd, 1) := by decide +kernel
theorem dL_law__817 : decode cL_law_ 817 = .ok (.iaload, 1) := by decide +kernel
theorem dL_law__818 : decode cL_law_ 818 = .ok (.aload_n 0, 1) := by decide +kernel
theorem dL_law__819 : decode cL_law_ 819 = .ok (.iload 4, 2) := by decide +kernel
theorem dL_law__821 : decode cL_law_ 821 = .ok (.iconst 3, 1) := by decide +kernel
theorem dL_law__822 : decode cL_law_ 822 = .ok (.iadd, 1) := by decide +kernel
theorem dL_law__823 : decode cL_law_ 823 = .ok (.iaload, 1) := by decide +kernel
theorem dL_law__824 : decode cL_law_ 824 = .ok (.aload_n 0, 1) := by decide +kernel
theorem dL_law__825 : decode cL_law_ 825 = .ok (.iload 4, 2) := by decide +kernel
theorem dL_law__827 : decode cL_law_ 827 = .ok (.iconst 4, 1) := by decide +kernel
theorem dL_law__828 : decode cL_law_ 828 = .ok (.iadd, 1) := by decide +kernel
theorem dL_law__829 : decode cL_law_ 829 = .ok (.iaload, 1) := by decide +kernel
theorem dL_law__830 : decode cL_law_ 830 = .ok (.ifCond .eq 7, 3) := by decide +kernel
theorem dL_law__833 : decode cL_law_ 833 = .ok (.iconst 1, 1) := by decide +kernel
theorem dL_law__834 : decode cL_law_ 834 = .ok (.goto 4, 3) := by decide +kernel
theorem dL_law__837 : decode cL_law_ 837 = .ok (.iconst 0, 1) := by decide +kernel
theorem dL_law__838 : decode cL_law_ 838 = .ok (.invokevirtual 156, 3) := by decide +kernel
theorem dL_law__841 : decode cL_law_ 841 = .ok (.istore 6, 2) := by decide +kernel
theorem dL_law__843 : decode cL_law_ 843 = .ok (.aload_n 2, 1) := by decide +kernel
theorem dL_law__844 : decode cL_law_ 844 = .ok (.invokevirtual 124, 3) := by decide +kernel
theorem dL_law__847 : decode cL_law_ 847 = .ok (.iload 5, 2) := by decide +kernel
theorem dL_law__849 : decode cL_law_ 849 = .ok (.if_icmp .eq 5, 3) := by decide +kernel
theorem dL_law__852 : decode cL_law_ 852 = .ok (.iconst 0, 1) := by decide +kernel
theorem dL_law__853 : decode cL_law_ 853 = .ok (.ireturn, 1) := by decide +kernel
theorem dL_law__854 : decode cL_law_ 854 = .ok (.iload 5, 2) := by decide +kernel
theorem dL_law__856 : decode cL_law_ 856 = .ok (.ifCond .ne 15, 3) := by decide +kernel
theorem dL_law__859 : decode cL_law_ 859 = .ok (.aload_n 3, 1) := by decide +kernel
theorem dL_law__860 : decode cL_law_ 860 = .ok (.iconst 0, 1) := by decide +kernel
theorem dL_law__861 : decode cL_law_ 861 = .ok (.laload, 1) := by decide +kernel
theorem dL_law__862 : decode cL_law_ 862 = .ok (.iload 6, 2) := by decide +kernel
theorem dL_law__864 : decode cL_law_ 864 = .ok (.i2l, 1) := by decide +kernel
theorem dL_law__865 : decode cL_law_ 865 = .ok (.lcmp, 1) := by decide +kernel
theorem dL_law__866 : decode cL_law_ 866 = .ok (.ifCond .eq 5, 3) := by decide +kernel
theorem dL_law__869 : decode cL_law_ 869 = .ok (.iconst 0, 1) := by decide +kernel
theorem dL_law__870 : decode cL_law_ 870 = .ok (.ireturn, 1) := by decide +kernel
theorem dL_law__871 : decode cL_law_ 871 = .ok (.goto 1768, 3) := by decide +kernel
theorem dL_law__874 : decode cL_law_ 874 = .ok (.aload_n 1, 1) := by decide +kernel
theorem dL_law__875 : decode cL_law_ 875 = .ok (.aload_n 0, 1) := by decide +kernel
theorem dL_law__876 : decode cL_law_ 876 = .ok (.iload 4, 2) := by decide +kernel
theorem dL_law__878 : decode cL_law_ 878 = .ok (.iconst 1, 1) := by decide +kernel
theorem dL_law__879 : decode cL_law_ 879 = .ok (.iadd, 1) := by decide +kernel
theorem dL_law__880 : decode cL_law_ 880 = .ok (.iaload, 1) := by decide +kernel
theorem dL_law__881 : decode cL_law_ 881 = .ok (.aload_n 0, 1) := by decide +kernel
theorem dL_law__882 : decode cL_law_ 882 = .ok (.iload 4, 2) := by decide +kernel
theorem dL_law__884 : decode cL_law_ 884 = .ok (.iconst 2, 1) := by decide +kernel
theorem dL_law__885 : decode cL_law_ 885 = .ok (.iadd, 1) := by decide +kernel
theorem dL_law__886 : decode cL_law_ 886 = .ok (.iaload, 1) := by decide +kernel
theorem dL_law__887 : decode cL_law_ 887 = .ok (.aload_n 0, 1) := by decide +kernel
theorem dL_law__888 : decode cL_law_ 888 = .ok (.iload 4, 2) := by decide +kernel
theorem dL_law__890 : decode cL_law_ 890 = .ok (.iconst 3, 1) := by decide +kernel
theorem dL_law__891 : decode cL_law_ 891 = .ok (.iadd, 1) := by decide +kernel
theorem dL_law__892 : decode cL_law_ 892 = .ok (.iaload, 1) := by decide +kernel
theorem dL_law__893 : decode cL_law_ 893 = .ok (.aload_n 0, 1) := by decide +kernel
theorem dL_law__894 : decode cL_law_ 894 = .ok (.iload 4, 2) := by decide +kernel
theorem dL_law__896 : decode cL_law_ 896 = .ok (.iconst 4, 1) := by decide +kernel
theorem dL_law__897 : decode cL_law_ 897 = .ok (.iadd, 1) := by decide +kernel
theorem dL_law__898 : decode cL_law_ 898 = .ok (.iaload, 1) := by decide +kernel
theorem dL_law__899 : decode cL_law_ 899 = .ok (.aload_n 3, 1) := by decide +kernel
theorem dL_law__900 : decode cL_law_ 900 = .ok (.invokestatic 157, 3) := by decide +kernel
theorem dL_law__903 : decode cL_law_ 903 = .ok (.istore 5, 2) := by decide +kernel
theorem dL_law__905 : decode cL_law_ 905 = .ok (.aload_n 2, 1) := by decide +kernel
theorem dL_law__906 : decode cL_law_ 906 = .ok (.aload_n 0, 1) := by decide +kernel
theorem dL_law__907 : decode cL_law_ 907 = .ok (.iload 4, 2) := by decide +kernel
theorem dL_law__909 : decode cL_law_ 909 = .ok (.iconst 1, 1) := by decide +kernel
theorem dL_law__910 : decode cL_law_ 910 = .ok (.iadd, 1) := by decide +kernel
theorem dL_law__911 : decode cL_law_ 911 = .ok (.iaload, 1) := by decide +kernel
theorem dL_law__912 : decode cL_law_ 912 = .ok (.aload_n 0, 1) := by decide +kernel
theorem dL_law__913 : decode cL_law_ 913 = .ok (.iload 4, 2) := by decide +kernel
theorem dL_law__915 : decode cL_law_ 915 = .ok (.iconst 2, 1) := by decide +kernel
theorem dL_law__916 : decode cL_law_ 916 = .ok (.iadd, 1) := by decide +kernel
theorem dL_law__917 : decode cL_law_ 917 = .ok (.iaload, 1) := by decide +kernel
theorem dL_law__918 : decode cL_law_ 918 = .ok (.aload_n 0, 1) := by decide +kernel
theorem dL_law__919 : decode cL_law_ 919 = .ok (.iload 4, 2) := by decide +kernel
theorem dL_law__921 : decode cL_law_ 921 = .ok (.iconst 3, 1) := by decide +kernel
theorem dL_law__922 : decode cL_law_ 922 = .ok (.iadd, 1) := by decide +kernel
theorem dL_law__923 : decode cL_law_ 923 = .ok (.iaload, 1) := by decide +kernel
theorem dL_law__924 : decode cL_law_ 924 = .ok (.aload_n 0, 1) := by decide +kernel
theorem dL_law__925 : decode cL_law_ 925 = .ok (.iload 4, 2) := by decide +kernel
theorem dL_law__927 : decode cL_law_ 927 = .ok (.iconst 4, 1) := by decide +kernel
theorem dL_law__928 : decode cL_law_ 928 = .ok (.iadd, 1) := by decide +kernel
theorem dL_law__929 : decode cL_law_ 929 = .ok (.iaload, 1) := by decide +kernel
theorem dL_law__930 : decode cL_law_ 930 = .ok (.invokevirtual 160, 3) := by decide +kernel
theorem dL_law__933 : decode cL_law_ 933 = .ok (.istore 6, 2) := by decide +kernel
theorem dL_law__935 : decode cL_law_ 935 = .ok (.aload_n 2, 1) := by decide +kernel
theorem dL_law__936 : decode cL_law_ 936 = .ok (.invokevirtual 124, 3) := by decide +kernel
theorem dL_law__939 : decode cL_law_ 939 = .ok (.iload 5, 2) := by decide +kernel
theorem dL_law__941 : decode cL_law_ 941 = .ok (.if_icmp .eq 5, 3) := by decide +kernel
theorem dL_law__944 : decode cL_law_ 944 = .ok (.iconst 0, 1) := by decide +kernel
theorem dL_law__945 : decode cL_law_ 945 = .ok (.ireturn, 1) := by decide +kernel
theorem dL_law__946 : decode cL_law_ 946 = .ok (.iload 5, 2) := by decide +kernel
theorem dL_law__948 : decode cL_law_ 948 = .ok (.ifCond .ne 22, 3) := by decide +kernel
theorem dL_law__951 : decode cL_law_ 951 = .ok (.aload_n 3, 1) := by decide +kernel
theorem dL_law__952 : decode cL_law_ 952 = .ok (.iconst 0, 1) := by decide +kernel
theorem dL_law__953 : decode cL_law_ 953 = .ok (.laload, 1) := by decide +kernel
theorem dL_law__954 : decode cL_law_ 954 = .ok (.iload 6, 2) := by decide +kernel
theorem dL_law__956 : decode cL_law_ 956 = .ok (.ifCond .eq 7, 3) := by decide +kernel
theorem dL_law__959 : decode cL_law_ 959 = .ok (.lconst 1, 1) := by decide +kernel
theorem dL_law__960 : decode cL_law_ 960 = .ok (.goto 4, 3) := by decide +kernel
theorem dL_law__963 : decode cL_law_ 963 = .ok (.lconst 0, 1) := by decide +kernel
theorem dL_law__964 : decode cL_law_ 964 = .ok (.lcmp, 1) := by decide +kernel
theorem dL_law__965 : decode cL_law_ 965 = .ok (.ifCond .eq 5, 3) := by decide +kernel
theorem dL_law__968 : decode cL_law_ 968 = .ok (.iconst 0, 1) := by decide +kernel
theorem dL_law__969 : decode cL_law_ 969 = .ok (.ireturn, 1) := by decide +kernel
theorem dL_law__970 : decode cL_law_ 970 = .ok (.goto 1669, 3) := by decide +kernel
theorem dL_law__973 : decode cL_law_ 973 = .ok (.aload_n 1, 1) := by decide +kernel
theorem dL_law__974 : decode cL_law_ 974 = .ok (.aload_n 0, 1) := by decide +kernel
theorem dL_law__975 : decode cL_law_ 975 = .ok (.iload 4, 2) := by decide +kernel
theorem dL_law__977 : decode cL_law_ 977 = .ok (.iconst 1, 1) := by decide +kernel
theorem dL_law__978 : decode cL_law_ 978 = .ok (.iadd, 1) := by decide +kernel
theorem dL_law__979 : decode cL_law_ 979 = .ok (.iaload, 1) := by decide +kernel
theorem dL_law__980 : decode cL_law_ 980 = .ok (.aload_n 0, 1) := by decide +kernel
theorem dL_law__981 : decode cL_law_ 981 = .ok (.iload 4, 2) := by decide +kernel
theorem dL_law__983 : decode cL_law_ 983 = .ok (.iconst 2, 1) := by decide +kernel
theorem dL_law__984 : decode cL_law_ 984 = .ok (.iadd, 1) := by decide +kernel
theorem dL_law__985 : decode cL_law_ 985 = .ok (.iaload, 1) := by decide +kernel
theorem dL_law__986 : decode cL_law_ 986 = .ok (.aload_n 0, 1) := by decide +kernel
theorem dL_law__987 : decode cL_law_ 987 = .ok (.iload 4, 2) := by decide +kernel
theorem dL_law__989 : decode cL_law_ 989 = .ok (.iconst 3, 1) := by decide +kernel
theorem dL_law__990 : decode cL_law_ 990 = .ok (.iadd, 1) := by decide +kernel
theorem dL_law__991 : decode cL_law_ 991 = .ok (.iaload, 1) := by decide +kernel
theorem dL_law__992 : decode cL_law_ 992 = .ok (.aload_n 3, 1) := by decide +kernel
theorem dL_law__993 : decode cL_law_ 993 = .ok (.invokestatic 161, 3) := by decide +kernel
theorem dL_law__996 : decode cL_law_ 996 = .ok (.istore 5, 2) := by decide +kernel
theorem dL_law__998 : decode cL_law_ 998 = .ok (.aload_n 2, 1) := by decide +kernel
theorem dL_law__999 : decode cL_law_ 999 = .ok (.aload_n 0, 1) := by decide +kernel
theorem dL_law__1000 : decode cL_law_ 1000 = .ok (.iload 4, 2) := by decide +kernel
theorem dL_law__1002 : decode cL_law_ 1002 = .ok (.iconst 1, 1) := by decide +kernel
theorem dL_law__1003 : decode cL_law_ 1003 = .ok (.iadd, 1) := by decide +kernel
theorem dL_law__1004 : decode cL_law_ 1004 = .ok (.iaload, 1) := by decide +kernel
theorem dL_law__1005 : decode cL_law_ 1005 = .ok (.aload_n 0, 1) := by decide +kernel
theorem dL_law__1006 : decode cL_law_ 1006 = .ok (.iload 4, 2) := by decide +kernel
theorem dL_law__1008 : decode cL_law_ 1008 = .ok (.iconst 2, 1) := by decide +kernel
theorem dL_law__1009 : decode cL_law_ 1009 = .ok (.iadd, 1) := by decide +kernel
theorem dL_law__1010 : decode cL_law_ 1010 = .ok (.iaload, 1) := by decide +kernel
theorem dL_law__1011 : decode cL_law_ 1011 = .ok (.aload_n 0, 1) := by decide +kernel
theorem dL_law__1012 : decode cL_law_ 1012 = .ok (.iload 4, 2) := by decide +kernel
theorem dL_law__1014 : decode cL_law_ 1014 = .ok (.iconst 3, 1) := by decide +kernel
theorem dL_law__1015 : decode cL_law_ 1015 = .ok (.iadd, 1) := by decide +kernel
theorem dL_law__1016 : decode cL_law_ 1016 = .ok (.iaload, 1) := by decide +kernel
theorem dL_law__1017 : decode cL_law_ 1017 = .ok (.invokevirtual 163, 3) := by decide +kernel
theorem dL_law__1020 : decode cL_law_ 1020 = .ok (.istore 6, 2) := by decide +kernel
theorem dL_law__1022 : decode cL_law_ 1022 = .ok (.aload_n 2, 1) := by decide +kernel
theorem dL_law__1023 : decode cL_law_ 1023 = .ok (.invokevirtual 124, 3) := by decide +kernel
theorem dL_law__1026 : decode cL_law_ 1026 = .ok (.iload 5, 2) := by decide +kernel
theorem dL_law__1028 : decode cL_law_ 1028 = .ok (.if_icmp .eq 5, 3) := by decide +kernel
theorem dL_law__1031 : decode cL_law_ 1031 = .ok (.iconst 0, 1) := by decide +kernel
theorem dL_law__1032 : decode cL_law_ 1032 = .ok (.ireturn, 1) := by decide +kernel
theorem dL_law__1033 : decode cL_law_ 1033 = .ok (.iload 5, 2) := by decide +kernel
theorem dL_law__1035 : decode cL_law_ 1035 = .ok (.ifCond .ne 15, 3) := by decide +kernel
theorem dL_law__1038 : decode cL_law_ 1038 = .ok (.aload_n 3, 1) := by decide +kernel
theorem dL_law__1039 : decode cL_law_ 1039 = .ok (.iconst 0, 1) := by decide +kernel
